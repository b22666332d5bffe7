def g_l1f (g : Int64) (m : Nat) : Int32 := Int64.toInt32 (f_upper g - f_upper g / Int32.toInt64 (nI m) * Int32.toInt64 (nI m))
def g_l2f (g : Int64) (m : Nat) : Int32 := 1 + Int64.toInt32 (f_lower g - f_lower g / Int32.toInt64 (nI (m - 1)) * Int32.toInt64 (nI (m - 1)))
abbrev g_L : Type := (Nat → Int32) × (Nat → Int32) × (Nat → Int64)
def g_lst (k0 k1 : Int64) (m : Nat) : Nat → Nat → g_L → g_L
  | 0, _, x => x
  | k + 1, j, x => g_lst k0 k1 m k (j + 1) (upd x.1 j (g_l1f (g_dig k0 k1 (Int32.toInt64 (nI j)) x.2.2) m), upd x.2.1 j (g_l2f (g_dig k0 k1 (Int32.toInt64 (nI j)) x.2.2) m), g_end k0 k1 (Int32.toInt64 (nI j)) x.2.2)
theorem f_pf_le : ∀ (k a : Nat), a + k = 101 → a ≤ f_pf k a ∧ f_pf k a ≤ 101
  | 0, a, h => ⟨by show a ≤ 101; omega, Nat.le_refl _⟩
  | k + 1, a, h => by
    obtain ⟨h1, h2⟩ := f_pf_le k (a + 1) (by omega)
    by_cases e : f_prm a (a - 2) 2 = 0
    · simp only [f_pf, if_pos e]; omega
    · simp only [f_pf, if_neg e]; omega
