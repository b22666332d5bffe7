theorem g_is_in {j n : Nat} (hj : j < n) (hn : n < 2 ^ 31) : g_is (nI j) n = 1 := by
  unfold g_is
  rw [if_neg (nI_pos (by omega)), if_neg (nI_ge hj hn)]
def g_wish (dea : Nat → Int32) (pl : Nat → Nat) : Nat → Nat → Int32
  | 0, _ => -1
  | k + 1, j => if dea (pl j) < 0 then nI (pl j) else g_wish dea pl k (j + 1)
theorem g_wish_in {dea : Nat → Int32} {pl : Nat → Nat} {m : Nat} (hm : m < 2 ^ 31) (hp : ∀ j, pl j < m) : ∀ k j, ¬ g_wish dea pl k j < 0 → vp_in (g_wish dea pl k j) m
  | 0, j, h => absurd (by decide : (-1 : Int32) < 0) h
  | k + 1, j, h => by
    by_cases g : dea (pl j) < 0
    · simp only [g_wish, if_pos g]; exact vp_in_nI (hp j) hm
    · simp only [g_wish, if_neg g] at h ⊢; exact g_wish_in hm hp k (j + 1) h
def g_one (dea : Nat → Int32) (pl : Nat → Nat) (m k : Nat) : Nat → Int32 := if g_wish dea pl m 0 < 0 then dea else upd dea (g_wish dea pl m 0).toNatClampNeg (nI k)
/-- the dealing: turns t, t + 1 ..; lf places are left -/
def g_loop (fN sN : Nat → Nat) (m n : Nat) (dn : Nat → Int32) : Nat → Nat → Nat → (Nat → Int32) → Nat → Int32
  | 0, _, _, dea => dea
  | k + 1, t, lf, dea => if lf = 0 then dea else if dn (t % n) = 0 then g_loop fN sN m n dn k (t + 1) (lf - 1) (g_one dea (f_pl fN sN m (t % n)) m (t % n)) else g_loop fN sN m n dn k (t + 1) lf dea
def g_ups (dn : Nat → Int32) (n : Nat) : Nat := f_count (fun k => dn k == 0) n 0 0
theorem f_count_le (P : Nat → Bool) : ∀ k j c, f_count P k j c ≤ c + k
  | 0, _, _ => Nat.le_refl _
  | k + 1, j, c => by
    have h := f_count_le P k (j + 1) (if P j then c + 1 else c)
    simp only [f_count]
    split at h <;> rename_i e <;> simp only [e] at h ⊢ <;> simp at h ⊢ <;> omega
theorem g_ups_le (dn : Nat → Int32) (n : Nat) : g_ups dn n ≤ n := by
  have := f_count_le (fun k => dn k == 0) n 0 0
  unfold g_ups
  omega
def g_lf (dn : Nat → Int32) (m n : Nat) : Nat := if g_ups dn n = 0 then 0 else m
def g_deal (fN sN : Nat → Nat) (m n : Nat) (dn dea : Nat → Int32) : Nat → Int32 := g_loop fN sN m n dn 1000 0 (g_lf dn m n) (f_fill 101 0 (-1) dea)
def g_sh (f : Nat → Int32) (b : Nat) : Nat → Int32 := fun k => f (8 * b + k)
def g_copy : Nat → Nat → (Nat → Int32) → (Nat → Int32) → Nat → Int32
  | 0, _, _, g => g
  | k + 1, j, f, g => g_copy k (j + 1) f (upd g j (f j))
def g_meets (offm cutm : Nat → Int32) (b k : Nat) : Int32 := if offm k = 0 then (if cutm (8 * b + k) = 0 then 1 else 0) else 0
def g_ac (ctd dwn : Nat → Int32) (e : Nat) (ans : Int32) : Int32 := if ans = dwn e then ctd e + 1 else 0
def g_ar (ctd dwn : Nat → Int32) (e : Nat) (ans : Int32) : Int32 := if 3 ≤ g_ac ctd dwn e ans then 1 else 0
def g_at (ctd dwn : Nat → Int32) (e : Nat) (ans : Int32) : Nat → Int32 := if 3 ≤ g_ac ctd dwn e ans then upd (upd ctd e (g_ac ctd dwn e ans)) e 0 else upd ctd e (g_ac ctd dwn e ans)
def g_ad (ctd dwn : Nat → Int32) (e : Nat) (ans : Int32) : Nat → Int32 := if 3 ≤ g_ac ctd dwn e ans then upd dwn e (if dwn e = 0 then 1 else 0) else dwn
abbrev g_A : Type := (Nat → Int32) × (Nat → Int32) × Nat
def g_asks (offm cutm : Nat → Int32) (b : Nat) : Nat → Nat → g_A → g_A
  | 0, _, x => x
  | k + 1, j, x => g_asks offm cutm b k (j + 1) (g_at x.1 x.2.1 (8 * b + j) (g_meets offm cutm b j), g_ad x.1 x.2.1 (8 * b + j) (g_meets offm cutm b j), if g_ar x.1 x.2.1 (8 * b + j) (g_meets offm cutm b j) = 0 then x.2.2 else x.2.2 + 1)
def g_purge (dwn gol : Nat → Int32) (b : Nat) : Nat → Nat → (Nat → Int32) → Nat → Int32
  | 0, _, pha => pha
  | k + 1, e, pha => if pha e ≤ 0 then g_purge dwn gol b k (e + 1) pha else if dwn (8 * b + (gol e).toNatClampNeg) = 0 then g_purge dwn gol b k (e + 1) pha else g_purge dwn gol b k (e + 1) (upd pha e 0)
def g_liv (alv : Nat → Int32) (b : Nat) (o : Int32) : Int32 := if alv b = o then 0 else 1
def g_lpha (alv pha : Nat → Int32) (b : Nat) (o : Int32) : Nat → Int32 := if alv b = o then pha else if o = 0 then f_fill 8 (8 * b) 0 pha else pha
def g_pow (offm : Nat → Int32) (q : Nat) (o : Int32) : Int32 := if offm q = o then 1 else 0
def g_poff (offm : Nat → Int32) (q : Nat) (o : Int32) : Nat → Int32 := if offm q = o then upd offm q (if o = 0 then 1 else 0) else offm
def g_popn (offm opn : Nat → Int32) (q : Nat) (o : Int32) : Nat → Int32 := if offm q = o then f_fill 10 (10 * q) 0 opn else opn
def g_pth (cutm : Nat → Int32) (e : Nat) (o : Int32) : Int32 := if cutm e = o then 1 else 0
def g_pcut (cutm : Nat → Int32) (e : Nat) (o : Int32) : Nat → Int32 := if cutm e = o then upd cutm e (if o = 0 then 1 else 0) else cutm
