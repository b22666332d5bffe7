/-! the table: the class's fill and the reference's deal give the same places -/
def cN (P : Nat → Bool) : Nat → Nat
  | 0 => 0
  | k + 1 => cN P k + (if P k = true then 1 else 0)
theorem cN_le (P : Nat → Bool) : ∀ m, cN P m ≤ m
  | 0 => Nat.le_refl _
  | k + 1 => by
    have h1 := cN_le P k
    have hx : (if P k = true then 1 else 0) ≤ 1 := by split <;> omega
    simp only [cN]
    omega
theorem cN_lt {P : Nat → Bool} {p : Nat} (hp : P p = false) : ∀ m, p < m → cN P m < m
  | 0, h => absurd h (Nat.not_lt_zero _)
  | k + 1, h => by
    by_cases e : p = k
    · subst e
      have h1 := cN_le P p
      have h2 : (if P p = true then 1 else 0) = 0 := by rw [hp]; rfl
      simp only [cN]
      omega
    · have h1 := cN_lt hp k (by omega)
      have hx : (if P k = true then 1 else 0) ≤ 1 := by split <;> omega
      simp only [cN]
      omega
theorem cN_upd {P P' : Nat → Bool} {q : Nat} (h : ∀ j, j ≠ q → P' j = P j) (h0 : P q = false) (h1 : P' q = true) : ∀ m, (q < m → cN P' m = cN P m + 1) ∧ (m ≤ q → cN P' m = cN P m)
  | 0 => ⟨fun h => absurd h (Nat.not_lt_zero _), fun _ => rfl⟩
  | k + 1 => by
    obtain ⟨i1, i2⟩ := cN_upd h h0 h1 k
    by_cases e : k = q
    · subst e
      have i3 := i2 (Nat.le_refl _)
      refine ⟨fun _ => ?_, fun z => absurd z (by omega)⟩
      simp only [cN, h0, h1, i3]
      simp
    · simp only [cN, h k e]
      exact ⟨fun z => by rw [i1 (by omega)]; omega, fun z => by rw [i2 (by omega)]⟩
theorem cN_free {P : Nat → Bool} : ∀ m, cN P m < m → ∃ p, p < m ∧ P p = false
  | 0, h => absurd h (Nat.not_lt_zero _)
  | k + 1, h => by
    by_cases e : P k = true
    · have h2 : cN P k < k := by
        simp only [cN, if_pos e] at h
        omega
      obtain ⟨p, h3, h4⟩ := cN_free k h2
      exact ⟨p, by omega, h4⟩
    · exact ⟨k, by omega, by simpa using e⟩
theorem ff_eq {own : Nat → Int32} {pl : Nat → Nat} : ∀ k j js, j ≤ js → js < j + k → own (pl js) = -1 → (∀ i, j ≤ i → i < js → ¬ own (pl i) = -1) → f_ff own pl k j = js
  | 0, j, js, h1, h2, _, _ => by omega
  | k + 1, j, js, h1, h2, h3, h4 => by
    by_cases e : j = js
    · subst e; simp only [f_ff, if_pos h3]
    · have h5 := h4 j (Nat.le_refl _) (by omega)
      simp only [f_ff, if_neg h5]
      exact ff_eq k (j + 1) js (by omega) (by omega) h3 (fun i a b => h4 i (by omega) b)
theorem wish_eq {dea : Nat → Int32} {pl : Nat → Nat} : ∀ k j js, j ≤ js → js < j + k → dea (pl js) < 0 → (∀ i, j ≤ i → i < js → ¬ dea (pl i) < 0) → g_wish dea pl k j = nI (pl js)
  | 0, j, js, h1, h2, _, _ => by omega
  | k + 1, j, js, h1, h2, h3, h4 => by
    by_cases e : j = js
    · subst e; simp only [g_wish, if_pos h3]
    · have h5 := h4 j (Nat.le_refl _) (by omega)
      simp only [g_wish, if_neg h5]
      exact wish_eq k (j + 1) js (by omega) (by omega) h3 (fun i a b => h4 i (by omega) b)
theorem pl_sur {m f s i p : Nat} (hm : 0 < m) (hi : (s * i) % m = 1 % m) (hf : f < m) (hp : p < m) : ∃ j, j < m ∧ (f + j * s) % m = p := by
  refine ⟨(i * (p + (m - f))) % m, Nat.mod_lt _ hm, ?_⟩
  have h1 : ((i * (p + (m - f))) % m * s) % m = (p + (m - f)) % m := by
    calc ((i * (p + (m - f))) % m * s) % m = ((i * (p + (m - f))) % m % m * (s % m)) % m := Nat.mul_mod _ _ _
      _ = ((i * (p + (m - f))) % m * (s % m)) % m := by rw [Nat.mod_mod]
      _ = (i * (p + (m - f)) * s) % m := (Nat.mul_mod _ _ _).symm
      _ = ((s * i) * (p + (m - f))) % m := by rw [Nat.mul_comm (i * (p + (m - f))) s, Nat.mul_assoc]
      _ = ((s * i) % m * ((p + (m - f)) % m)) % m := Nat.mul_mod _ _ _
      _ = (1 % m * ((p + (m - f)) % m)) % m := by rw [hi]
      _ = (1 * (p + (m - f))) % m := (Nat.mul_mod _ _ _).symm
      _ = (p + (m - f)) % m := by rw [Nat.one_mul]
  rw [Nat.add_mod, h1, ← Nat.add_mod]
  have h2 : f + (p + (m - f)) = p + m := by omega
  rw [h2, Nat.add_mod_right, Nat.mod_eq_of_lt hp]
def inv_ok : Bool := (List.range 102).all fun m => !(f_prm m (m - 2) 2 == 1) || (List.range m).all fun s => s == 0 || (List.range m).any fun i => (s * i) % m == 1
theorem inv_ok_t : inv_ok = true := by decide +kernel
theorem inv_ex {m s : Nat} (hm : m < 102) (hp : f_prm m (m - 2) 2 = 1) (hs : s < m) (h0 : 0 < s) : ∃ i, (s * i) % m = 1 := by
  have h1 := List.all_eq_true.mp inv_ok_t m (List.mem_range.mpr hm)
  rw [hp] at h1
  simp only [beq_self_eq_true, Bool.not_true, Bool.false_or] at h1
  have h2 := List.all_eq_true.mp h1 s (List.mem_range.mpr hs)
  have h3 : (s == 0) = false := by simp; omega
  rw [h3, Bool.false_or] at h2
  obtain ⟨i, -, h4⟩ := List.any_eq_true.mp h2
  exact ⟨i, by simpa using h4⟩
def f_sur (fN sN : Nat → Nat) (m n : Nat) : Prop := ∀ k, k < n → ∀ p, p < m → ∃ j, j < m ∧ f_pl fN sN m k j = p
theorem f_sur_of {fN sN : Nat → Nat} {m n : Nat} (hm : 7 ≤ m ∧ m < 102) (hp : f_prm m (m - 2) 2 = 1) (h : ∀ k, k < n → fN k < m ∧ sN k < m ∧ 0 < sN k) : f_sur fN sN m n := by
  intro k hk p hp2
  obtain ⟨h1, h2, h3⟩ := h k hk
  obtain ⟨i, hi⟩ := inv_ex hm.2 hp h2 h3
  exact pl_sur (by omega) (by rw [hi, Nat.mod_eq_of_lt (by omega)]) h1 hp2
/-- own, nxt, g (the class) and dea (the reference) in the middle of the dealing -/
def f_R (fN sN : Nat → Nat) (m n : Nat) (x : f_S) (dea : Nat → Int32) : Prop :=
  x.2.2 ≤ m ∧ (∀ p, p < m → x.1 p = dea p) ∧ (∀ p, p < m → x.1 p = -1 ∨ ¬ x.1 p < 0) ∧ cN (fun p => !(x.1 p == -1)) m = x.2.2 ∧ ∀ k, k < n → ∀ j, j < (x.2.1 k).toNatClampNeg → ¬ x.1 (f_pl fN sN m k j) = -1
theorem f_R_step {fN sN : Nat → Nat} {m n k : Nat} {x : f_S} {dea : Nat → Int32} (hm : 0 < m ∧ m ≤ 101) (hn : n ≤ 8) (hs : f_sur fN sN m n) (hk : k < n) (h : f_R fN sN m n x dea) (hg : x.2.2 < m) :
    f_R fN sN m n (upd x.1 (f_pl fN sN m k (f_j1 fN sN m k x.1 x.2.1)) (nI k), upd x.2.1 k (nI (f_j1 fN sN m k x.1 x.2.1 + 1)), x.2.2 + 1) (g_one dea (f_pl fN sN m k) m k) := by
  obtain ⟨own, nxt, g⟩ := x
  obtain ⟨a1, a2, a3, a4, a5⟩ := h
  dsimp only at a1 a2 a3 a4 a5 hg ⊢
  have hneg : (-1 : Int32) < 0 := by decide
  obtain ⟨p, hp, hp2⟩ := cN_free (P := fun p => !(own p == -1)) m (by omega)
  have hp3 : own p = -1 := by simpa using hp2
  obtain ⟨j0, hj0, ej0⟩ := hs k hk p hp
  obtain ⟨js, hjs, hmin⟩ := pk_least (fun j => own (f_pl fN sN m k j) = -1) ⟨j0, by rw [ej0]; exact hp3⟩
  have hlt : js < m := Nat.lt_of_not_le (fun z => hmin j0 (by omega) (by rw [ej0]; exact hp3))
  have hnx : (nxt k).toNatClampNeg ≤ js := Nat.le_of_not_lt (fun z => a5 k hk js z hjs)
  have e1 : f_j1 fN sN m k own nxt = js := ff_eq _ _ js hnx (by omega) hjs (fun i _ hi => hmin i hi)
  have hpl : ∀ j, f_pl fN sN m k j < m := fun j => f_pl_lt hm.1
  have hd : ∀ q, q < m → (dea q < 0 ↔ own q = -1) := fun q hq => by
    rw [← a2 q hq]
    exact ⟨fun z => (a3 q hq).resolve_right (fun y => y z), fun z => by rw [z]; exact hneg⟩
  have e2 : g_wish dea (f_pl fN sN m k) m 0 = nI (f_pl fN sN m k js) := wish_eq m 0 js (Nat.zero_le _) (by omega) ((hd _ (hpl js)).mpr hjs) (fun i _ hi z => hmin i hi ((hd _ (hpl i)).mp z))
  have hb : f_pl fN sN m k js < 2 ^ 31 := by have := hpl js; omega
  have e3 : g_one dea (f_pl fN sN m k) m k = upd dea (f_pl fN sN m k js) (nI k) := by
    unfold g_one
    rw [e2, if_neg (nI_pos hb), nI_clamp hb]
  rw [e1, e3]
  have hk31 : k < 2 ^ 31 := by omega
  unfold f_R
  dsimp only
  refine ⟨by omega, fun q hq => ?_, fun q hq => ?_, ?_, fun k' hk' j hj => ?_⟩
  · by_cases e : q = f_pl fN sN m k js
    · rw [e, pk_us, pk_us]
    · rw [pk_un e, pk_un e]; exact a2 q hq
  · by_cases e : q = f_pl fN sN m k js
    · rw [e, pk_us]; exact Or.inr (nI_pos hk31)
    · rw [pk_un e]; exact a3 q hq
  · have h9 := (cN_upd (P := fun p => !(own p == -1)) (P' := fun p => !(upd own (f_pl fN sN m k js) (nI k) p == -1)) (q := f_pl fN sN m k js) (fun j hj => by simp only [pk_un hj]) (by simp only [hjs]; rfl) (by simp only [pk_us]; simpa using zm1 hk31) m).1 (hpl js)
    rw [h9, a4]
  · have keep : ∀ q, ¬ own q = -1 → ¬ upd own (f_pl fN sN m k js) (nI k) q = -1 := fun q hq => by
      by_cases e : q = f_pl fN sN m k js
      · rw [e, pk_us]; exact zm1 hk31
      · rw [pk_un e]; exact hq
    by_cases ek : k' = k
    · subst ek
      rw [pk_us, nI_clamp (by omega)] at hj
      by_cases ej : j = js
      · rw [ej, pk_us]; exact zm1 hk31
      · exact keep _ (hmin j (by omega))
    · rw [pk_un ek] at hj
      exact keep _ (a5 k' hk' j hj)
theorem g_loop_0 (fN sN : Nat → Nat) (m n : Nat) (dn : Nat → Int32) (dea : Nat → Int32) : ∀ F t, g_loop fN sN m n dn F t 0 dea = dea
  | 0, _ => rfl
  | F + 1, t => by simp only [g_loop, if_true]
theorem f_inner_R {fN sN : Nat → Nat} {m n : Nat} {up dn : Nat → Int32} (hm : 0 < m ∧ m ≤ 101) (hn : 0 < n ∧ n ≤ 8) (hs : f_sur fN sN m n) (hu : ∀ k, k < n → (up k = 0 ↔ ¬ dn k = 0)) : ∀ (k j : Nat) (x : f_S) (dea : Nat → Int32) (r F : Nat), j + k = n → f_R fN sN m n x dea →
    ∃ dea', f_R fN sN m n (f_inner fN sN m up k j x) dea' ∧ g_loop fN sN m n dn (F + k) (r * n + j) (m - x.2.2) dea = g_loop fN sN m n dn F (r * n + j + k) (m - (f_inner fN sN m up k j x).2.2) dea'
  | 0, j, x, dea, r, F, hj, h => ⟨dea, h, rfl⟩
  | k + 1, j, x, dea, r, F, hj, h => by
    have hmod : (r * n + j) % n = j := by rw [Nat.add_comm, Nat.add_mul_mod_self_right, Nat.mod_eq_of_lt (by omega)]
    simp only [f_inner]
    have hjn : j < n := by omega
    by_cases g0 : m ≤ x.2.2
    · have e1 : f_turn fN sN m up j x = x := by unfold f_turn; rw [if_pos g0]; split <;> rfl
      rw [e1]
      obtain ⟨dea', b1, b2⟩ := f_inner_R hm hn hs hu k (j + 1) x dea r F (by omega) h
      refine ⟨dea', b1, ?_⟩
      have z : m - x.2.2 = 0 := by omega
      rw [z, g_loop_0] at b2 ⊢
      rw [b2]
      congr 1
      omega
    · by_cases u0 : up j = 0
      · have e1 : f_turn fN sN m up j x = x := by unfold f_turn; rw [if_pos u0]
        rw [e1]
        obtain ⟨dea', b1, b2⟩ := f_inner_R hm hn hs hu k (j + 1) x dea r F (by omega) h
        refine ⟨dea', b1, ?_⟩
        have e2 : g_loop fN sN m n dn (F + (k + 1)) (r * n + j) (m - x.2.2) dea = g_loop fN sN m n dn (F + k) (r * n + j + 1) (m - x.2.2) dea := by
          show g_loop fN sN m n dn (F + k + 1) (r * n + j) (m - x.2.2) dea = _
          simp only [g_loop]
          rw [if_neg (by omega), hmod, if_neg ((hu j hjn).mp u0)]
        rw [e2, Nat.add_assoc (r * n) j 1, b2]
        congr 1
        omega
      · have hR := f_R_step hm hn.2 hs hjn h (by omega)
        have e1 : f_turn fN sN m up j x = (upd x.1 (f_pl fN sN m j (f_j1 fN sN m j x.1 x.2.1)) (nI j), upd x.2.1 j (nI (f_j1 fN sN m j x.1 x.2.1 + 1)), x.2.2 + 1) := by
          unfold f_turn; rw [if_neg u0, if_neg g0]
        rw [e1]
        obtain ⟨dea', b1, b2⟩ := f_inner_R hm hn hs hu k (j + 1) _ _ r F (by omega) hR
        refine ⟨dea', b1, ?_⟩
        have d0 : dn j = 0 := by
          by_cases d : dn j = 0
          · exact d
          · exact absurd ((hu j hjn).mpr d) u0
        have e2 : g_loop fN sN m n dn (F + (k + 1)) (r * n + j) (m - x.2.2) dea = g_loop fN sN m n dn (F + k) (r * n + j + 1) (m - x.2.2 - 1) (g_one dea (f_pl fN sN m j) m j) := by
          show g_loop fN sN m n dn (F + k + 1) (r * n + j) (m - x.2.2) dea = _
          simp only [g_loop]
          rw [if_neg (by omega), hmod, if_pos d0]
        dsimp only at b2
        rw [e2, Nat.add_assoc (r * n) j 1, show m - x.2.2 - 1 = m - (x.2.2 + 1) by omega, b2]
        congr 1
        omega
theorem f_outer_R {fN sN : Nat → Nat} {m n : Nat} {up dn : Nat → Int32} (hm : 0 < m ∧ m ≤ 101) (hn : 0 < n ∧ n ≤ 8) (hs : f_sur fN sN m n) (hu : ∀ k, k < n → (up k = 0 ↔ ¬ dn k = 0)) : ∀ (k : Nat) (x : f_S) (dea : Nat → Int32) (r F : Nat), f_R fN sN m n x dea →
    ∃ dea', f_R fN sN m n (f_outer fN sN m n up k x) dea' ∧ g_loop fN sN m n dn (F + k * n) (r * n) (m - x.2.2) dea = g_loop fN sN m n dn F ((r + k) * n) (m - (f_outer fN sN m n up k x).2.2) dea'
  | 0, x, dea, r, F, h => ⟨dea, h, by simp only [f_outer, Nat.zero_mul, Nat.add_zero]⟩
  | k + 1, x, dea, r, F, h => by
    obtain ⟨d1, b1, b2⟩ := f_inner_R hm hn hs hu n 0 x dea r (F + k * n) (by omega) h
    obtain ⟨d2, c1, c2⟩ := f_outer_R hm hn hs hu k _ d1 (r + 1) F b1
    refine ⟨d2, c1, ?_⟩
    simp only [f_outer]
    rw [Nat.add_zero] at b2
    rw [show F + (k + 1) * n = F + k * n + n by rw [Nat.succ_mul]; omega, b2, show r * n + n = (r + 1) * n by rw [Nat.succ_mul], c2, show r + 1 + k = r + (k + 1) by omega]
theorem f_turn_mono (fN sN : Nat → Nat) (m : Nat) (up : Nat → Int32) (k : Nat) (x : f_S) : x.2.2 ≤ (f_turn fN sN m up k x).2.2 := by
  unfold f_turn
  split
  · exact Nat.le_refl _
  · split
    · exact Nat.le_refl _
    · exact Nat.le_succ _
theorem f_inner_mono (fN sN : Nat → Nat) (m : Nat) (up : Nat → Int32) : ∀ (k j : Nat) (x : f_S), x.2.2 ≤ (f_inner fN sN m up k j x).2.2
  | 0, _, _ => Nat.le_refl _
  | k + 1, j, x => Nat.le_trans (f_turn_mono fN sN m up j x) (f_inner_mono fN sN m up k (j + 1) _)
theorem f_inner_prog {fN sN : Nat → Nat} {m : Nat} {up : Nat → Int32} : ∀ (k j i : Nat) (x : f_S), j ≤ i → i < j + k → ¬ up i = 0 → m ≤ (f_inner fN sN m up k j x).2.2 ∨ x.2.2 < (f_inner fN sN m up k j x).2.2
  | 0, j, i, x, h1, h2, _ => by omega
  | k + 1, j, i, x, h1, h2, h3 => by
    simp only [f_inner]
    have hm1 := f_turn_mono fN sN m up j x
    have hm2 := f_inner_mono fN sN m up k (j + 1) (f_turn fN sN m up j x)
    by_cases e : j = i
    · subst e
      by_cases g : m ≤ x.2.2
      · exact Or.inl (by omega)
      · have e1 : (f_turn fN sN m up j x).2.2 = x.2.2 + 1 := by unfold f_turn; rw [if_neg h3, if_neg g]
        exact Or.inr (by omega)
    · rcases f_inner_prog k (j + 1) i (f_turn fN sN m up j x) (by omega) (by omega) h3 with h | h
      · exact Or.inl h
      · exact Or.inr (by omega)
theorem f_outer_prog {fN sN : Nat → Nat} {m n i : Nat} {up : Nat → Int32} (hi : i < n) (hu : ¬ up i = 0) : ∀ (k : Nat) (x : f_S), m ≤ (f_outer fN sN m n up k x).2.2 ∨ x.2.2 + k ≤ (f_outer fN sN m n up k x).2.2
  | 0, x => Or.inr (Nat.le_refl _)
  | k + 1, x => by
    simp only [f_outer]
    rcases f_outer_prog hi hu k (f_inner fN sN m up n 0 x) with h | h
    · exact Or.inl h
    · rcases f_inner_prog (fN := fN) (sN := sN) (m := m) n 0 i x (Nat.zero_le _) (by omega) hu with g | g
      · exact Or.inl (by omega)
      · exact Or.inr (by omega)
theorem f_count_0 {P : Nat → Bool} : ∀ (k j c : Nat), f_count P k j c = 0 → c = 0 ∧ ∀ i, j ≤ i → i < j + k → P i = false
  | 0, j, c, h => ⟨h, fun i a b => by omega⟩
  | k + 1, j, c, h => by
    simp only [f_count] at h
    obtain ⟨h1, h2⟩ := f_count_0 k (j + 1) _ h
    by_cases e : P j = true
    · rw [if_pos e] at h1; omega
    · rw [if_neg e] at h1
      refine ⟨h1, fun i a b => ?_⟩
      by_cases e2 : i = j
      · subst e2; simpa using e
      · exact h2 i (by omega) (by omega)
theorem f_count_n {P : Nat → Bool} : ∀ (k j c : Nat), (∀ i, j ≤ i → i < j + k → P i = false) → f_count P k j c = c
  | 0, j, c, h => rfl
  | k + 1, j, c, h => by
    simp only [f_count]
    rw [h j (Nat.le_refl _) (by omega)]
    exact f_count_n k (j + 1) c (fun i a b => h i (by omega) (by omega))
theorem f_inner_id {fN sN : Nat → Nat} {m : Nat} {up : Nat → Int32} : ∀ (k j : Nat) (x : f_S), (∀ i, j ≤ i → i < j + k → up i = 0) → f_inner fN sN m up k j x = x
  | 0, _, _, _ => rfl
  | k + 1, j, x, h => by
    simp only [f_inner]
    have e1 : f_turn fN sN m up j x = x := by unfold f_turn; rw [if_pos (h j (Nat.le_refl _) (by omega))]
    rw [e1]
    exact f_inner_id k (j + 1) x (fun i a b => h i (by omega) (by omega))
theorem f_outer_id {fN sN : Nat → Nat} {m n : Nat} {up : Nat → Int32} (h : ∀ i, i < n → up i = 0) : ∀ (k : Nat) (x : f_S), f_outer fN sN m n up k x = x
  | 0, _ => rfl
  | k + 1, x => by
    simp only [f_outer]
    rw [f_inner_id n 0 x (fun i _ b => h i (by omega))]
    exact f_outer_id h k x
theorem cN_0 {P : Nat → Bool} : ∀ m, (∀ p, p < m → P p = false) → cN P m = 0
  | 0, _ => rfl
  | k + 1, h => by
    simp only [cN]
    rw [h k (by omega), cN_0 k (fun p hp => h p (by omega))]
    rfl
/-- the class's table is the reference's -/
theorem tab_deal {fN sN : Nat → Nat} {m n : Nat} {up dn : Nat → Int32} (hm : 0 < m ∧ m ≤ 101) (hn : 0 < n ∧ n ≤ 8) (hs : f_sur fN sN m n) (hu : ∀ k, k < n → (up k = 0 ↔ ¬ dn k = 0)) (own nxt dea : Nat → Int32) :
    (∀ p, p < m → (f_tab fN sN m n up own nxt).1 p = g_deal fN sN m n dn dea p) ∧ (g_ups dn n = 0 → ∀ p, p < m → (f_tab fN sN m n up own nxt).1 p = -1) ∧ (¬ g_ups dn n = 0 → ∀ p, p < m → ¬ (f_tab fN sN m n up own nxt).1 p = -1) := by
  have h0 : f_R fN sN m n (f_fill m 0 (-1) own, f_fill n 0 0 nxt, 0) (f_fill 101 0 (-1) dea) := by
    have e1 : ∀ p, p < m → f_fill m 0 (-1) own p = -1 := fun p hp => by rw [f_fill_at, if_pos (by omega)]
    refine ⟨Nat.zero_le _, fun p hp => ?_, fun p hp => Or.inl (e1 p hp), ?_, fun k hk j hj => ?_⟩
    · show f_fill m 0 (-1) own p = f_fill 101 0 (-1) dea p
      rw [e1 p hp, f_fill_at, if_pos (by omega)]
    · exact cN_0 m (fun p hp => by simp only [e1 p hp]; rfl)
    · exfalso
      dsimp only at hj
      rw [f_fill_at, if_pos (by omega)] at hj
      exact Nat.not_lt_zero _ hj
  by_cases u : g_ups dn n = 0
  · have hz : ∀ i, i < n → up i = 0 := fun i hi => by
      have := (f_count_0 n 0 0 u).2 i (Nat.zero_le _) (by omega)
      exact (hu i hi).mpr (by simpa using this)
    have e1 : f_tab fN sN m n up own nxt = (f_fill m 0 (-1) own, f_fill n 0 0 nxt, 0) := f_outer_id hz m _
    have e2 : ∀ p, p < m → (f_tab fN sN m n up own nxt).1 p = -1 := fun p hp => by
      rw [e1]; show f_fill m 0 (-1) own p = -1; rw [f_fill_at, if_pos (by omega)]
    refine ⟨fun p hp => ?_, fun _ => e2, fun h => absurd u h⟩
    rw [e2 p hp]
    unfold g_deal g_lf
    rw [if_pos u, g_loop_0, f_fill_at, if_pos (by omega)]
  · obtain ⟨d', b1, b2⟩ := f_outer_R hm hn hs hu m (f_fill m 0 (-1) own, f_fill n 0 0 nxt, 0) (f_fill 101 0 (-1) dea) 0 (1000 - m * n) h0
    have hmn : m * n ≤ 101 * 8 := Nat.mul_le_mul hm.2 hn.2
    rw [show 1000 - m * n + m * n = 1000 by omega, Nat.zero_mul, Nat.zero_add] at b2
    have hex : ∃ i, i < n ∧ ¬ up i = 0 := by
      by_cases h : ∃ i, i < n ∧ ¬ up i = 0
      · exact h
      · exfalso
        apply u
        refine f_count_n n 0 0 (fun i _ hi => ?_)
        have hi2 : i < n := by omega
        have : up i = 0 := by
          by_cases z : up i = 0
          · exact z
          · exact absurd ⟨i, hi2, z⟩ h
        simpa using (hu i hi2).mp this
    obtain ⟨i, hi, hui⟩ := hex
    have hfull : (f_tab fN sN m n up own nxt).2.2 = m := by
      have h1 := f_outer_prog (fN := fN) (sN := sN) (m := m) hi hui m (f_fill m 0 (-1) own, f_fill n 0 0 nxt, 0)
      have h2 : (f_tab fN sN m n up own nxt).2.2 ≤ m := b1.1
      have h3 : m ≤ (f_tab fN sN m n up own nxt).2.2 := by
        rcases h1 with h | h
        · exact h
        · have h' : 0 + m ≤ (f_tab fN sN m n up own nxt).2.2 := h
          omega
      omega
    have b3 : g_deal fN sN m n dn dea = d' := by
      unfold g_deal g_lf
      rw [if_neg u]
      have b4 : g_loop fN sN m n dn 1000 0 m (f_fill 101 0 (-1) dea) = g_loop fN sN m n dn (1000 - m * n) (m * n) (m - (f_tab fN sN m n up own nxt).2.2) d' := b2
      rw [b4, hfull, Nat.sub_self, g_loop_0]
    refine ⟨fun p hp => by rw [b3]; exact b1.2.1 p hp, fun h => absurd h u, fun _ p hp z => ?_⟩
    have h5 := cN_lt (P := fun p => !((f_tab fN sN m n up own nxt).1 p == -1)) (p := p) (by simp only [z]; rfl) m hp
    have h6 : cN (fun p => !((f_tab fN sN m n up own nxt).1 p == -1)) m = (f_tab fN sN m n up own nxt).2.2 := b1.2.2.2.1
    omega
