def f_fill : Nat → Nat → Int32 → (Nat → Int32) → Nat → Int32
  | 0, _, _, f => f
  | k + 1, j, v, f => f_fill k (j + 1) v (upd f j v)
def f_count (P : Nat → Bool) : Nat → Nat → Nat → Nat
  | 0, _, c => c
  | k + 1, j, c => f_count P k (j + 1) (if P j then c + 1 else c)
def f_pl (fN sN : Nat → Nat) (m k j : Nat) : Nat := (fN k + j * sN k) % m
def f_ff (own : Nat → Int32) (pl : Nat → Nat) : Nat → Nat → Nat
  | 0, j => j
  | k + 1, j => if own (pl j) = -1 then j else f_ff own pl k (j + 1)
abbrev f_S : Type := (Nat → Int32) × (Nat → Int32) × Nat
def f_j1 (fN sN : Nat → Nat) (m k : Nat) (own nxt : Nat → Int32) : Nat := f_ff own (f_pl fN sN m k) (m - (nxt k).toNatClampNeg) (nxt k).toNatClampNeg
def f_turn (fN sN : Nat → Nat) (m : Nat) (up : Nat → Int32) (k : Nat) (x : f_S) : f_S :=
  if up k = 0 then x else if m ≤ x.2.2 then x else (upd x.1 (f_pl fN sN m k (f_j1 fN sN m k x.1 x.2.1)) (nI k), upd x.2.1 k (nI (f_j1 fN sN m k x.1 x.2.1 + 1)), x.2.2 + 1)
def f_inner (fN sN : Nat → Nat) (m : Nat) (up : Nat → Int32) : Nat → Nat → f_S → f_S
  | 0, _, x => x
  | k + 1, j, x => f_inner fN sN m up k (j + 1) (f_turn fN sN m up j x)
def f_outer (fN sN : Nat → Nat) (m n : Nat) (up : Nat → Int32) : Nat → f_S → f_S
  | 0, x => x
  | k + 1, x => f_outer fN sN m n up k (f_inner fN sN m up n 0 x)
def f_tab (fN sN : Nat → Nat) (m n : Nat) (up own nxt : Nat → Int32) : f_S := f_outer fN sN m n up m (f_fill m 0 (-1) own, f_fill n 0 0 nxt, 0)
def f_LN (fst stp : Nat → Int32) (fN sN : Nat → Nat) (m n : Nat) : Prop := ∀ k, k < n → fst k = nI (fN k) ∧ fN k < m ∧ stp k = nI (sN k) ∧ sN k < m
theorem f_ff_le (own : Nat → Int32) (pl : Nat → Nat) : ∀ k j, f_ff own pl k j ≤ j + k
  | 0, j => Nat.le_refl _
  | k + 1, j => by
    by_cases h : own (pl j) = -1
    · simp [f_ff, h]
    · have := f_ff_le own pl k (j + 1)
      simp only [f_ff, if_neg h]; omega
theorem f_pl_eq {fst stp : Nat → Int32} {fN sN : Nat → Nat} {m n k j : Nat} (hL : f_LN fst stp fN sN m n) (hm : 0 < m ∧ m ≤ 101) (hk : k < n) (hj : j ≤ 1000) : f_rem (fst k + nI j * stp k) (nI m) = nI (f_pl fN sN m k j) := by
  obtain ⟨h1, h2, h3, h4⟩ := hL k hk
  have h5 : j * sN k ≤ 1000 * 101 := Nat.mul_le_mul hj (by omega)
  rw [h1, h3, pk_mul, nI_add]
  exact pk_rem (by omega) (by omega) (by omega)
theorem f_pl_lt {fN sN : Nat → Nat} {m k j : Nat} (hm : 0 < m) : f_pl fN sN m k j < m := Nat.mod_lt _ hm
/-- the row of next places stays small -/
def f_nok (nxt : Nat → Int32) (n b : Nat) : Prop := ∀ k, k < n → nxt k = nI (nxt k).toNatClampNeg ∧ (nxt k).toNatClampNeg ≤ b
theorem f_fill_at (v : Int32) : ∀ (k j : Nat) (f : Nat → Int32) (i : Nat), f_fill k j v f i = if j ≤ i ∧ i < j + k then v else f i
  | 0, j, f, i => by rw [if_neg (by omega)]; rfl
  | k + 1, j, f, i => by
    simp only [f_fill]
    rw [f_fill_at v k (j + 1) (upd f j v) i]
    by_cases h : j ≤ i ∧ i < j + (k + 1)
    · rw [if_pos h]
      by_cases h2 : i = j
      · subst h2; rw [if_neg (by omega), pk_us]
      · rw [if_pos (by omega)]
    · rw [if_neg h, if_neg (by omega), pk_un (by omega)]
theorem f_nok_0 {nxt : Nat → Int32} {n b : Nat} : f_nok (f_fill n 0 0 nxt) n b := fun k hk => by
  rw [f_fill_at, if_pos (by omega)]
  exact ⟨rfl, Nat.zero_le _⟩
theorem f_nok_put {nxt : Nat → Int32} {n b k j : Nat} (h : f_nok nxt n b) (hj : j ≤ b + 1) (hb : b < 2 ^ 30) : f_nok (upd nxt k (nI j)) n (b + 1) := fun i hi => by
  by_cases e : i = k
  · subst e; rw [pk_us, nI_clamp (by omega)]; exact ⟨rfl, hj⟩
  · rw [pk_un e]; exact ⟨(h i hi).1, Nat.le_succ_of_le (h i hi).2⟩
def f_liveuse (on o : Int32) (use : Nat → Int32) (cnt : Int32) : (Nat → Int32) × Int32 := if on = o then (use, cnt) else if o = 0 then f_all 8 0 use cnt else (use, cnt)
def f_sw (x y : Int32) : Int32 := if x = y then 1 else 0
def f_not (x : Int32) : Int32 := if x = 0 then 1 else 0
def f_meets (on c : Int32) : Int32 := if on = 0 then 0 else if c = 0 then 1 else 0
