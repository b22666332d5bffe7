/-! sizes, lists, stamps and the choice of a balancer: both sides -/
theorem il {x y : Int32} : x < y ↔ x.toInt < y.toInt := Int32.lt_iff_toInt_lt
theorem ile {x y : Int32} : x ≤ y ↔ x.toInt ≤ y.toInt := Int32.le_iff_toInt_le
theorem clamp_eq (x lo hi : Int32) (h : lo ≤ hi) : f_clamp x lo hi = f_within x lo hi := by
  have h0 := ile.mp h
  unfold f_clamp f_within
  by_cases a : x < hi
  · rw [if_pos a]
    have a' := il.mp a
    by_cases b : lo ≤ x
    · rw [if_pos b, if_pos (ile.mpr (by omega))]
      have b' := ile.mp b
      by_cases c : lo < x
      · rw [if_pos c]
      · rw [if_neg c]
        have c' : ¬ lo.toInt < x.toInt := fun z => c (il.mpr z)
        exact Int32.toInt_inj.mp (by omega)
    · rw [if_neg b, if_neg (fun z => b (ile.mpr (by have := il.mp z; omega)))]
  · rw [if_neg a]
    have a' : ¬ x.toInt < hi.toInt := fun z => a (il.mpr z)
    rw [if_pos (ile.mpr (by omega) : lo ≤ x)]
    by_cases c : lo < hi
    · rw [if_pos c]
      by_cases d : x ≤ hi
      · rw [if_pos d]
        have d' := ile.mp d
        exact Int32.toInt_inj.mp (by omega)
      · rw [if_neg d]
    · rw [if_neg c]
      have c' : ¬ lo.toInt < hi.toInt := fun z => c (il.mpr z)
      by_cases d : x ≤ hi
      · rw [if_pos d]
        have d' := ile.mp d
        exact Int32.toInt_inj.mp (by omega)
      · rw [if_neg d]
        exact Int32.toInt_inj.mp (by omega)
theorem within_nat (v : Int32) {a c : Nat} (hc : c < 2 ^ 31) (h : a ≤ c) : ∃ B : Nat, a ≤ B ∧ B ≤ c ∧ f_within v (nI a) (nI c) = nI B := by
  unfold f_within
  by_cases h1 : nI a ≤ v
  · rw [if_pos h1]
    by_cases h2 : v ≤ nI c
    · rw [if_pos h2]
      have a1 := ile.mp h1
      have a2 := ile.mp h2
      rw [nI_toInt (by omega)] at a1 a2
      have h3 : ¬ v < 0 := fun z => by have := il.mp z; rw [show (0 : Int32).toInt = 0 by decide] at this; omega
      obtain ⟨j, hj, e⟩ := nI_of h3
      subst e
      rw [nI_toInt hj] at a1 a2
      exact ⟨j, by omega, by omega, rfl⟩
    · rw [if_neg h2]
      exact ⟨c, h, Nat.le_refl _, rfl⟩
  · rw [if_neg h1]
    exact ⟨a, Nat.le_refl _, h, rfl⟩
theorem next_f {a : Nat} (h : a < 65536) : f_next (nI a) = nI ((a + 1) % 65536) := by
  unfold f_next
  rw [nI_1, ix_and16, pk_tn (by omega)]
theorem next_g {a : Nat} (h : a < 65536) : nI a + 1 - (nI a + 1) / 65536 * 65536 = nI ((a + 1) % 65536) := by
  have e := pk_rem (a := a + 1) (d := 65536) (by omega) (by omega) (by omega)
  rw [show nI 65536 = 65536 by decide] at e
  rw [nI_1]
  exact e
/-! the prime -/
theorem prm01 (N : Nat) : ∀ k d, f_prm N k d = 0 ∨ f_prm N k d = 1
  | 0, _ => Or.inr rfl
  | k + 1, d => by
    simp only [f_prm]
    split
    · exact Or.inl rfl
    · exact prm01 N k (d + 1)
theorem pf_prime : ∀ (k a : Nat), a + k = 101 → f_prm (f_pf k a) (f_pf k a - 2) 2 = 1
  | 0, a, _ => by show f_prm 101 99 2 = 1; decide +kernel
  | k + 1, a, h => by
    by_cases e : f_prm a (a - 2) 2 = 0
    · simp only [f_pf, if_pos e]
      exact pf_prime k (a + 1) (by omega)
    · simp only [f_pf, if_neg e]
      exact (prm01 a (a - 2) 2).resolve_left e
/-! the lists of places -/
def lfN (k0 k1 : Int64) (m : Nat) (k : Nat) : Nat := (f_dig k0 k1 (Int32.toInt64 (nI k))).toBitVec.toNat / 4294967296 % m
def lsN (k0 k1 : Int64) (m : Nat) (k : Nat) : Nat := 1 + (f_dig k0 k1 (Int32.toInt64 (nI k))).toBitVec.toNat % 4294967296 % (m - 1)
theorem l1_nat (g : Int64) {m : Nat} (hm : 0 < m ∧ m ≤ 101) : f_l1 g m = nI (g.toBitVec.toNat / 4294967296 % m) := by
  have h0 := lx_nat g
  unfold f_l1
  rw [lx_lN (zlushr g 32), lx_ushr, nI_l (by omega), pk_lRem (by omega) hm.1 (by omega), lN_i]
theorem l2_nat (g : Int64) {m : Nat} (hm : 2 ≤ m ∧ m ≤ 101) : f_l2 g m = nI (1 + g.toBitVec.toNat % 4294967296 % (m - 1)) := by
  have h0 := lx_nat g
  unfold f_l2
  rw [lx_lN (g &&& 4294967295), lx_and, nI_l (by omega), pk_lRem (by omega) (by omega) (by omega), show (1 : Int64) = lN 1 by decide, lN_add, lN_i]
theorem l1_eq (g : Int64) (m : Nat) : g_l1f g m = f_l1 g m := by
  unfold g_l1f f_l1
  rw [lx_upper]
theorem l2_eq (g : Int64) {m : Nat} (hm : 2 ≤ m ∧ m ≤ 101) : g_l2f g m = f_l2 g m := by
  have h0 := lx_nat g
  rw [l2_nat g hm]
  unfold g_l2f
  rw [lx_lower, lx_lN (g &&& 4294967295), lx_and, nI_l (by omega), pk_lRem (by omega) (by omega) (by omega), lN_i, show (1 : Int32) = nI 1 by decide, nI_add]
theorem lst_f (k0 k1 : Int64) (m : Nat) : ∀ (k j : Nat) (x : f_L) (i : Nat), (f_lst k0 k1 m k j x).1 i = (if j ≤ i ∧ i < j + k then f_l1 (f_dig k0 k1 (Int32.toInt64 (nI i))) m else x.1 i) ∧ (f_lst k0 k1 m k j x).2.1 i = (if j ≤ i ∧ i < j + k then f_l2 (f_dig k0 k1 (Int32.toInt64 (nI i))) m else x.2.1 i)
  | 0, j, x, i => by rw [if_neg (by omega), if_neg (by omega)]; exact ⟨rfl, rfl⟩
  | k + 1, j, x, i => by
    simp only [f_lst]
    obtain ⟨h1, h2⟩ := lst_f k0 k1 m k (j + 1) (upd x.1 j (f_l1 (f_dig k0 k1 (Int32.toInt64 (nI j))) m), upd x.2.1 j (f_l2 (f_dig k0 k1 (Int32.toInt64 (nI j))) m), f_end k0 k1 (Int32.toInt64 (nI j))) i
    rw [h1, h2]
    dsimp only
    by_cases e : i = j
    · subst e
      rw [if_neg (by omega), if_pos (by omega), if_neg (by omega), if_pos (by omega), pk_us, pk_us]
      exact ⟨rfl, rfl⟩
    · rw [pk_un e, pk_un e]
      by_cases g : j + 1 ≤ i ∧ i < j + 1 + k
      · rw [if_pos g, if_pos g, if_pos (by omega), if_pos (by omega)]
        exact ⟨rfl, rfl⟩
      · rw [if_neg g, if_neg g, if_neg (by omega), if_neg (by omega)]
        exact ⟨rfl, rfl⟩
theorem lst_g (k0 k1 : Int64) {m : Nat} (hm : 2 ≤ m ∧ m ≤ 101) : ∀ (k j : Nat) (a c : Nat → Int32) (w : Nat → Int64) (v : f_4), (g_lst k0 k1 m k j (a, c, w)).1 = (f_lst k0 k1 m k j (a, c, v)).1 ∧ (g_lst k0 k1 m k j (a, c, w)).2.1 = (f_lst k0 k1 m k j (a, c, v)).2.1
  | 0, _, _, _, _, _ => ⟨rfl, rfl⟩
  | k + 1, j, a, c, w, v => by
    simp only [g_lst, f_lst]
    rw [dig_eq, l1_eq, l2_eq _ hm]
    exact lst_g k0 k1 hm k (j + 1) _ _ _ _
theorem lst_LN (k0 k1 : Int64) {m n : Nat} (hm : 7 ≤ m ∧ m ≤ 101) (v : f_4) : f_LN (f_lst k0 k1 m n 0 (fun _ => 0, fun _ => 0, v)).1 (f_lst k0 k1 m n 0 (fun _ => 0, fun _ => 0, v)).2.1 (lfN k0 k1 m) (lsN k0 k1 m) m n := fun k hk => by
  obtain ⟨h1, h2⟩ := lst_f k0 k1 m n 0 (fun _ => 0, fun _ => 0, v) k
  rw [h1, h2, if_pos (by omega), if_pos (by omega), l1_nat _ (by omega), l2_nat _ (by omega)]
  have a1 : lfN k0 k1 m k < m := Nat.mod_lt _ (by omega)
  have a2 : (f_dig k0 k1 (Int32.toInt64 (nI k))).toBitVec.toNat % 4294967296 % (m - 1) < m - 1 := Nat.mod_lt _ (by omega)
  exact ⟨rfl, a1, rfl, by unfold lsN; omega⟩
theorem lst_sur (k0 k1 : Int64) {m n : Nat} (hm : 7 ≤ m ∧ m ≤ 101) (hp : f_prm m (m - 2) 2 = 1) : f_sur (lfN k0 k1 m) (lsN k0 k1 m) m n := f_sur_of ⟨hm.1, by omega⟩ hp (fun k _ => by
  have a1 : lfN k0 k1 m k < m := Nat.mod_lt _ (by omega)
  have a2 : (f_dig k0 k1 (Int32.toInt64 (nI k))).toBitVec.toNat % 4294967296 % (m - 1) < m - 1 := Nat.mod_lt _ (by omega)
  refine ⟨a1, ?_, ?_⟩ <;> unfold lsN <;> omega)
/-! the choice of a balancer -/
theorem lv_nat {lv alv : Nat → Int32} : ∀ (k j c : Nat), (∀ i, j ≤ i → i < j + k → lv i = alv i) → g_lv alv k j (lN c) = lN (f_count (fun y => !(lv y == 0)) k j c)
  | 0, _, _, _ => rfl
  | k + 1, j, c, h => by
    simp only [g_lv, f_count]
    rw [← h j (Nat.le_refl _) (by omega)]
    by_cases e : lv j = 0
    · rw [if_pos e, lv_nat k (j + 1) c (fun i a b => h i (by omega) (by omega))]
      simp [e]
    · rw [if_neg e, lN_1, lv_nat k (j + 1) (c + 1) (fun i a b => h i (by omega) (by omega))]
      simp [e]
theorem rt_eq {lv alv : Nat → Int32} : ∀ (k j a : Nat), a < 2 ^ 31 → (∀ i, j ≤ i → i < j + k → lv i = alv i) → f_rt lv k j (nI a) = g_rt alv k j (lN a)
  | 0, _, _, _, _ => rfl
  | k + 1, j, a, ha, h => by
    simp only [f_rt, g_rt]
    rw [← h j (Nat.le_refl _) (by omega)]
    by_cases e : lv j = 0
    · rw [if_pos e, if_pos e]
      exact rt_eq k (j + 1) a ha (fun i p q => h i (by omega) (by omega))
    · rw [if_neg e, if_neg e]
      have c1 : (nI a = 0) ↔ a = 0 := by rw [← nI_0]; exact nI_eq ha (by omega)
      have c2 : (lg_cmp (lN a) 0 = 0) ↔ a = 0 := by rw [lg_cmp_eq, show (0 : Int64) = lN 0 by decide]; exact lN_eq ha (by omega)
      by_cases z : a = 0
      · rw [if_pos (c1.mpr z), if_pos (c2.mpr z)]
      · rw [if_neg (fun y => z (c1.mp y)), if_neg (fun y => z (c2.mp y))]
        obtain ⟨a', rfl⟩ : ∃ a', a = a' + 1 := ⟨a - 1, by omega⟩
        rw [pk_m1, show (1 : Int64) = lN 1 by decide, lN_sub (by omega)]
        exact rt_eq k (j + 1) a' (by omega) (fun i p q => h i (by omega) (by omega))
theorem route_eq {lv alv : Nat → Int32} {B : Nat} (hB : B ≤ 4) (h : ∀ i, i < B → lv i = alv i) (x : Int64) : f_route lv B x = g_route alv B x := by
  have h0 := lx_nat x
  have hc : f_liv lv B ≤ 4 := by have := f_count_le (fun j => !(lv j == 0)) B 0 0; unfold f_liv; omega
  unfold f_route g_route
  have e1 : g_lv alv B 0 0 = lN (f_liv lv B) := lv_nat B 0 0 (fun i _ b => h i (by omega))
  have hu : x.toBitVec.toNat / 4294967296 * f_liv lv B ≤ 4294967295 * 4 := Nat.mul_le_mul (by omega) hc
  have hv : x.toBitVec.toNat / 4294967296 * f_liv lv B / 4294967296 < 4 := by omega
  have e2 : Int64.toInt32 (zlushr (zlushr x 32 * Int32.toInt64 (nI (f_liv lv B))) 32) = nI (x.toBitVec.toNat / 4294967296 * f_liv lv B / 4294967296) := by
    rw [nI_l (by omega), lx_lN (zlushr x 32), lx_ushr, lN_mul, lx_lN (zlushr _ 32), lx_ushr, lN_i]
    congr 2
    show (BitVec.ofNat 64 _).toNat = _
    rw [BitVec.toNat_ofNat]
    omega
  have e3 : f_upper x * g_lv alv B 0 0 / 4294967296 = lN (x.toBitVec.toNat / 4294967296 * f_liv lv B / 4294967296) := by
    rw [e1, lx_upper, lx_lN (zlushr x 32), lx_ushr, lN_mul, show (4294967296 : Int64) = lN 4294967296 by decide, pk_lDiv (by omega) (by omega) (by omega)]
  rw [e2, e3]
  exact rt_eq B 0 _ (by omega) (fun i _ b => h i (by omega))
theorem rt_or {lv : Nat → Int32} : ∀ (k j : Nat) (a : Int32), f_rt lv k j a = -1 ∨ ∃ b, j ≤ b ∧ b < j + k ∧ lv b ≠ 0 ∧ f_rt lv k j a = nI b
  | 0, _, _ => Or.inl rfl
  | k + 1, j, a => by
    simp only [f_rt]
    by_cases e : lv j = 0
    · rw [if_pos e]
      rcases rt_or k (j + 1) a with h | ⟨b, h1, h2, h3, h4⟩
      · exact Or.inl h
      · exact Or.inr ⟨b, by omega, by omega, h3, h4⟩
    · rw [if_neg e]
      by_cases z : a = 0
      · rw [if_pos z]
        exact Or.inr ⟨j, Nat.le_refl _, by omega, e, rfl⟩
      · rw [if_neg z]
        rcases rt_or k (j + 1) (a + (-1)) with h | ⟨b, h1, h2, h3, h4⟩
        · exact Or.inl h
        · exact Or.inr ⟨b, by omega, by omega, h3, h4⟩
theorem plc_eq (h : Int64) (m : Nat) : g_plc h m = f_plc h m := by
  unfold g_plc f_plc
  rw [lx_lower]
theorem plc_nat (h : Int64) {m : Nat} (hm : 0 < m ∧ m ≤ 101) : ∃ t, t < m ∧ f_plc h m = nI t := by
  have h0 := lx_nat h
  refine ⟨h.toBitVec.toNat % 4294967296 % m, Nat.mod_lt _ hm.1, ?_⟩
  unfold f_plc
  rw [lx_lN (h &&& 4294967295), lx_and, nI_l (by omega), pk_lRem (by omega) hm.1 (by omega), lN_i]
