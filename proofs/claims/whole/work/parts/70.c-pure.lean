def g_put (f : Nat → Int32) (e v : Int32) : Nat → Int32 := if 0 ≤ e then upd f e.toNatClampNeg v else f
def g_lv (alv : Nat → Int32) : Nat → Nat → Int64 → Int64
  | 0, _, c => c
  | k + 1, j, c => if alv j = 0 then g_lv alv k (j + 1) c else g_lv alv k (j + 1) (c + 1)
def g_rt (alv : Nat → Int32) : Nat → Nat → Int64 → Int32
  | 0, _, _ => -1
  | k + 1, j, bf => if alv j = 0 then g_rt alv k (j + 1) bf else if lg_cmp bf 0 = 0 then nI j else g_rt alv k (j + 1) (bf - 1)
def g_route (alv : Nat → Int32) (n : Nat) (h : Int64) : Int32 := g_rt alv n 0 (f_upper h * g_lv alv n 0 0 / 4294967296)
def g_l1 (pha : Nat → Int32) (b : Nat) : Nat := f_count (fun e => !decide (pha (8 * b + e) ≤ 0)) 8 0 0
def g_l2 (opn : Nat → Int32) (q : Nat) : Nat → Nat → Nat → Nat
  | 0, _, c => c
  | k + 1, j, c => g_l2 opn q k (j + 1) (if opn (10 * q + j) = 0 then c else c + 100)
def g_wir (t by0 to0 rep ost bst : Int32) (inr : Nat → Int32) : Int32 :=
  if t = 5 then 2048 else if t ≤ 5 then (if t ≤ 10 then g_five t (1157627928 + (inr 0 &&& 65535)) ost 1076822016 (167772416 + by0) (167772672 + to0) else if rep = 0 then 0 else g_five (t - 11) 1157627944 bst 1074135040 167772161 (inr 3))
  else if 11 ≤ t then (if t ≤ 10 then g_five t (1157627928 + (inr 0 &&& 65535)) ost 1076822016 (167772416 + by0) (167772672 + to0) else if rep = 0 then 0 else g_five (t - 11) 1157627944 bst 1074135040 167772161 (inr 3)) else inr (t - 6).toNatClampNeg
theorem g_w6 {t : Int32} (h1 : ¬ t ≤ 5) (h2 : ¬ 11 ≤ t) : vp_in (t - 6) 5 := by
  have a1 : (5 : Int32).toInt = 5 := by decide
  have a2 : (11 : Int32).toInt = 11 := by decide
  have a3 : (6 : Int32).toInt = 6 := by decide
  have b1 := Int32.lt_iff_toInt_lt.mp (Int32.not_le.mp h1)
  have b2 := Int32.lt_iff_toInt_lt.mp (Int32.not_le.mp h2)
  rw [a1] at b1
  rw [a2] at b2
  have e1 : (t - 6).toInt = t.toInt - 6 := by
    rw [Int32.toInt_sub, a3]
    exact Int.bmod_eq_of_le (by omega) (by omega)
  exact vp_in_iff.mpr (by rw [e1]; omega)
def g_at2 (fl e : Int32) (pha : Nat → Int32) (b : Nat) : Int32 := if fl = 2 then (if 0 ≤ e then e else g_free pha b) else e
def g_ph (fl : Int32) : Int32 := if fl = 2 then 4 else if fl = 16 then 16 else if fl = 17 then 2 else 0
def g_se (opn ssr spo : Nat → Int32) (q : Nat) (s p : Int32) : Int32 := if 0 ≤ g_sess opn ssr spo q s p then g_sess opn ssr spo q s p else g_frees opn q
abbrev g_V : Type := Int32 × Int32 × (Nat → Int32) × (Nat → Int32) × (Nat → Int32) × (Nat → Int32) × (Nat → Int32)
def g_srv (opn ssr spo awa dat : Nat → Int32) (q : Nat) (s p sq fl had : Int32) : g_V :=
  if fl = 4 then (0, had, g_put opn (g_sess opn ssr spo q s p) 0, ssr, spo, awa, dat)
  else if fl = 2 then (if 0 ≤ g_se opn ssr spo q s p then 1 else 4, had, g_put opn (g_se opn ssr spo q s p) 1, g_put ssr (g_se opn ssr spo q s p) s, g_put spo (g_se opn ssr spo q s p) p, g_put awa (g_se opn ssr spo q s p) (sq + 1), g_put dat (g_se opn ssr spo q s p) 0)
  else if 0 ≤ g_sess opn ssr spo q s p then
    if awa (g_sess opn ssr spo q s p).toNatClampNeg = sq then
      if fl = 17 then (5, dat (g_sess opn ssr spo q s p).toNatClampNeg, upd opn (g_sess opn ssr spo q s p).toNatClampNeg 0, ssr, spo, awa, dat)
      else (2, dat (g_sess opn ssr spo q s p).toNatClampNeg + 1, opn, ssr, spo, upd awa (g_sess opn ssr spo q s p).toNatClampNeg (awa (g_sess opn ssr spo q s p).toNatClampNeg + 1), upd dat (g_sess opn ssr spo q s p).toNatClampNeg (dat (g_sess opn ssr spo q s p).toNatClampNeg + 1))
    else (3, dat (g_sess opn ssr spo q s p).toNatClampNeg, opn, ssr, spo, awa, dat)
  else (4, had, opn, ssr, spo, awa, dat)
theorem f_first_vp {P : Nat → Bool} {k i N : Nat} (hb : i + k ≤ N) (hN : N < 2 ^ 31) (h : ¬ f_first P k i < 0) : vp_in (f_first P k i) N := by
  obtain ⟨h1, h2, h3⟩ := f_first_rg (by omega) h
  rw [h1]
  exact vp_in_nI (by omega) hN
