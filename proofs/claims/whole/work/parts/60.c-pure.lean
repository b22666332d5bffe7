def g_tick (usd : Nat → Int32) (t : Int32) : Nat → Nat → (Nat → Int32) → Nat → Int32
  | 0, _, pha => pha
  | k + 1, e, pha => if t - usd e ≤ pha e then g_tick usd t k (e + 1) pha else g_tick usd t k (e + 1) (upd pha e 0)
def g_same (pha esr epo : Nat → Int32) (s p : Int32) (e : Nat) : Bool := !decide (pha e ≤ 0) && (esr e == s) && (epo e == p)
def g_slot (pha esr epo : Nat → Int32) (b : Nat) (s p : Int32) : Int32 := f_first (g_same pha esr epo s p) 8 (8 * b)
def g_free (pha : Nat → Int32) (b : Nat) : Int32 := f_first (fun e => pha e == 0) 8 (8 * b)
def g_sess (opn ssr spo : Nat → Int32) (q : Nat) (s p : Int32) : Int32 := f_first (f_same opn ssr spo s p) 10 (10 * q)
def g_frees (opn : Nat → Int32) (q : Nat) : Int32 := f_first (fun e => opn e == 0) 10 (10 * q)
theorem f_first_rg {P : Nat → Bool} {k i : Nat} (hb : i + k < 2 ^ 31) (h : ¬ f_first P k i < 0) : f_first P k i = nI (f_first P k i).toNatClampNeg ∧ i ≤ (f_first P k i).toNatClampNeg ∧ (f_first P k i).toNatClampNeg < i + k := by
  rcases f_first_or P k i with g | ⟨j, g1, g2, g3, g4⟩
  · rw [g] at h; exact absurd (by decide) h
  · rw [g4, nI_clamp (by omega)]; exact ⟨rfl, g1, g2⟩
def g_five (t f0 mk f2 f3 f4 : Int32) : Int32 := if t = 0 then f0 else if t = 1 then mk * 65536 else if t = 2 then f2 + g_cks f0 (mk * 65536) f2 f3 f4 else if t = 3 then f3 else f4
def g_wire (t by0 to0 rep ost bst : Int32) (inr : Nat → Int32) : Int32 :=
  if by0 < 0 then 0 else if t < 0 then 0 else if t ≤ 15 then
    if t = 5 then 2048 else if t ≤ 5 then (if t ≤ 10 then g_five t (1157627928 + (inr 0 &&& 65535)) ost 1076822016 (167772416 + by0) (167772672 + to0) else 0)
    else if 11 ≤ t then (if t ≤ 10 then 0 else if rep = 0 then 0 else g_five (t - 11) 1157627944 bst 1074135040 167772161 (inr 3)) else inr (t - 6).toNatClampNeg
  else 0
