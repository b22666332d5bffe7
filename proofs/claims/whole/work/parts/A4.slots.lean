/-! sessions of a server: both sides -/
theorem ff2 {P P' : Nat → Bool} {c : Nat} : ∀ (k i : Nat), (∀ j, i ≤ j → j < i + k → P' (c + j) = P j) → (f_first P k i = -1 ∧ f_first P' k (c + i) = -1 ∧ ∀ j, i ≤ j → j < i + k → P j = false) ∨ ∃ j, i ≤ j ∧ j < i + k ∧ P j = true ∧ f_first P k i = nI j ∧ f_first P' k (c + i) = nI (c + j)
  | 0, i, _ => Or.inl ⟨rfl, rfl, fun j a b => by omega⟩
  | k + 1, i, h => by
    have h0 := h i (Nat.le_refl _) (by omega)
    by_cases e : P i = true
    · exact Or.inr ⟨i, Nat.le_refl _, by omega, e, by simp [f_first, e], by simp [f_first, h0, e]⟩
    · rcases ff2 k (i + 1) (fun j a b => h j (by omega) (by omega)) with ⟨g1, g2, g3⟩ | ⟨j, g1, g2, g3, g4, g5⟩
      · refine Or.inl ⟨by simp [f_first, e, g1], by simp only [f_first, h0, if_neg e]; exact g2, fun j a b => ?_⟩
        by_cases z : j = i
        · subst z; simpa using e
        · exact g3 j (by omega) (by omega)
      · exact Or.inr ⟨j, by omega, by omega, g3, by simp only [f_first, if_neg e]; exact g4, by simp only [f_first, h0, if_neg e]; exact g5⟩
def cU (use : Nat → Int32) (k : Nat) : Nat := cN (fun e => !(use e == 0)) k
theorem cU_up {use : Nat → Int32} {j k : Nat} {v : Int32} (hj : j < k) (h0 : use j = 0) (hv : ¬ v = 0) : cU (upd use j v) k = cU use k + 1 :=
  (cN_upd (P := fun e => !(use e == 0)) (P' := fun e => !(upd use j v e == 0)) (q := j) (fun i hi => by simp only [pk_un hi]) (by simp only [h0]; rfl) (by simp only [pk_us]; simpa using hv) k).1 hj
theorem cU_dn {use : Nat → Int32} {j k : Nat} (hj : j < k) (h0 : ¬ use j = 0) : cU use k = cU (upd use j 0) k + 1 :=
  (cN_upd (P := fun e => !(upd use j 0 e == 0)) (P' := fun e => !(use e == 0)) (q := j) (fun i hi => by simp only [pk_un hi]) (by simp only [pk_us]; rfl) (by simpa using h0) k).1 hj
theorem cU_le (use : Nat → Int32) (k : Nat) : cU use k ≤ k := cN_le _ k
/-- the same value written on both sides -/
theorem sec_upd {f g : Nat → Int32} {c N j : Nat} {v : Int32} (h : ∀ e, e < N → g (c + e) = f e) : ∀ e, e < N → upd g (c + j) v (c + e) = upd f j v e := fun e he => by
  by_cases z : e = j
  · subst z; rw [pk_us, pk_us]
  · rw [pk_un z, pk_un (by omega)]; exact h e he
theorem sec_out {g : Nat → Int32} {c N j i : Nat} {v : Int32} (hj : j < N) (h : i < c ∨ c + N ≤ i) : upd g (c + j) v i = g i := pk_un (by omega)
def rQ (q : Nat) (src prt use nx dt : Nat → Int32) (cnt : Int32) (opn ssr spo awa dat : Nat → Int32) : Prop :=
  (∀ e, e < 10 → use e = 0 ∨ use e = 1) ∧ (∀ e, e < 10 → opn (10 * q + e) = use e) ∧ (∀ e, e < 10 → ssr (10 * q + e) = src e) ∧ (∀ e, e < 10 → spo (10 * q + e) = prt e) ∧ (∀ e, e < 10 → awa (10 * q + e) = nx e) ∧ (∀ e, e < 10 → dat (10 * q + e) = dt e) ∧ cnt = nI (cU use 10)
/-- outside of server q's ten places nothing changes -/
def oQ (q : Nat) (f g : Nat → Int32) : Prop := ∀ i, (i < 10 * q ∨ 10 * q + 10 ≤ i) → g i = f i
theorem oQ.rf {q : Nat} {f : Nat → Int32} : oQ q f f := fun _ _ => rfl
theorem oQ.up {q j : Nat} {f : Nat → Int32} {v : Int32} (hj : j < 10) : oQ q f (upd f (10 * q + j) v) := fun i h => sec_out hj h
theorem pU_of {use : Nat → Int32} {j : Nat} {v : Int32} (h : ∀ e, e < 10 → use e = 0 ∨ use e = 1) (hv : v = 0 ∨ v = 1) : ∀ e, e < 10 → upd use j v e = 0 ∨ upd use j v e = 1 := fun e he => by
  by_cases z : e = j
  · subst z; rw [pk_us]; exact hv
  · rw [pk_un z]; exact h e he
theorem gp {f : Nat → Int32} {j : Nat} {v : Int32} (hj : j < 2 ^ 31) : g_put f (nI j) v = upd f j v := by
  unfold g_put
  rw [if_pos (nI_pos' hj), nI_clamp hj]
theorem gpm {f : Nat → Int32} {v : Int32} : g_put f (-1) v = f := if_neg (by decide)
theorem fp {f : Nat → Int32} {j : Nat} {v : Int32} (hj : j < 2 ^ 31) : f_put f (nI j) v = upd f j v := by
  unfold f_put
  rw [if_neg (zm1 hj), nI_clamp hj]
theorem fpm {f : Nat → Int32} {v : Int32} : f_put f (-1) v = f := if_pos rfl
theorem same_eq {q : Nat} {src prt use nx dt : Nat → Int32} {cnt : Int32} {opn ssr spo awa dat : Nat → Int32} (h : rQ q src prt use nx dt cnt opn ssr spo awa dat) (s p : Int32) : ∀ j, 0 ≤ j → j < 0 + 10 → f_same opn ssr spo s p (10 * q + j) = f_same use src prt s p j := fun j _ hj => by
  unfold f_same
  rw [h.2.1 j (by omega), h.2.2.1 j (by omega), h.2.2.2.1 j (by omega)]
theorem free_eq {q : Nat} {src prt use nx dt : Nat → Int32} {cnt : Int32} {opn ssr spo awa dat : Nat → Int32} (h : rQ q src prt use nx dt cnt opn ssr spo awa dat) : ∀ j, 0 ≤ j → j < 0 + 10 → (fun e => opn e == 0) (10 * q + j) = (fun e => use e == 0) j := fun j _ hj => by
  show (opn (10 * q + j) == 0) = (use j == 0)
  rw [h.2.1 j (by omega)]
/-- what the ten places are behind a segment -/
def rN (q : Nat) (src prt : Nat → Int32) (R : Int32 × Int32 × (Nat → Int32) × (Nat → Int32) × (Nat → Int32) × Int32) (opn ssr spo awa dat : Nat → Int32) (G : g_V) : Prop :=
  R.1 = G.1 ∧ R.2.1 = G.2.1 ∧ rQ q src prt R.2.2.2.2.1 R.2.2.1 R.2.2.2.1 R.2.2.2.2.2 G.2.2.1 G.2.2.2.1 G.2.2.2.2.1 G.2.2.2.2.2.1 G.2.2.2.2.2.2 ∧ oQ q opn G.2.2.1 ∧ oQ q ssr G.2.2.2.1 ∧ oQ q spo G.2.2.2.2.1 ∧ oQ q awa G.2.2.2.2.2.1 ∧ oQ q dat G.2.2.2.2.2.2
theorem rel_ok {use : Nat → Int32} {cnt : Int32} {j : Nat} (hj : j < 10) (hc : cnt = nI (cU use 10)) (h0 : ¬ use j = 0) : f_ru use j = upd use j 0 ∧ f_rn use cnt j = nI (cU (upd use j 0) 10) := by
  unfold f_ru f_rn
  rw [if_neg h0, if_neg h0, hc, cU_dn hj h0]
  exact ⟨rfl, nI_pred _⟩
theorem srv_step {q : Nat} (hq : q < 8) {src prt use nx dt : Nat → Int32} {cnt : Int32} {opn ssr spo awa dat : Nat → Int32} (h : rQ q src prt use nx dt cnt opn ssr spo awa dat) (s p sq fl : Int32) (hfl : fl = 2 ∨ fl = 16 ∨ fl = 17 ∨ fl = 4) :
    rN q (f_put src (f_rnew fl use src prt s p) s) (f_put prt (f_rnew fl use src prt s p) p) (f_rec nx dt use src prt cnt s p sq fl) opn ssr spo awa dat (g_srv opn ssr spo awa dat q s p sq fl 0) := by
  obtain ⟨h1, h2, h3, h4, h5, h6, h7⟩ := h
  have hh : rQ q src prt use nx dt cnt opn ssr spo awa dat := ⟨h1, h2, h3, h4, h5, h6, h7⟩
  have A := ff2 (c := 10 * q) 10 0 (same_eq hh s p)
  have hz : (-1 : Int32) < 0 := by decide
  have hzn : ¬ (0 : Int32) ≤ -1 := by decide
  by_cases f2 : fl = 2
  · subst f2
    have n4 : ¬ (2 : Int32) = 4 := by decide
    rcases A with ⟨a1, a2, a3⟩ | ⟨j, -, a2, a3, a4, a5⟩
    · -- no session yet
      have a1' : f_find use src prt 10 s p = -1 := a1
      have a2' : g_sess opn ssr spo q s p = -1 := a2
      have Bf := ff2 (P := fun e => use e == 0) (P' := fun e => opn e == 0) (c := 10 * q) 10 0 (free_eq hh)
      have e1 : f_fot use src prt 10 s p = f_free use 10 := if_pos a1'
      have e2 : f_new use src prt 10 s p = f_free use 10 := if_pos a1'
      have e3 : g_se opn ssr spo q s p = g_frees opn q := by unfold g_se; rw [a2', if_neg hzn]
      unfold f_rec g_srv f_rnew
      rw [if_pos rfl, if_neg n4, if_pos rfl, if_pos rfl, e1, e2, e3]
      rcases Bf with ⟨b1, b2, b3⟩ | ⟨j, -, b2, b3, b4, b5⟩
      · have b1' : f_free use 10 = -1 := b1
        have b2' : g_frees opn q = -1 := b2
        rw [b1', b2']
        simp only [fpm, gpm]
        refine ⟨rfl, rfl, ⟨h1, h2, h3, h4, h5, h6, ?_⟩, oQ.rf, oQ.rf, oQ.rf, oQ.rf, oQ.rf⟩
        exact h7
      · have b4' : f_free use 10 = nI j := b4
        have b5' : g_frees opn q = nI (10 * q + j) := b5
        have hj : j < 10 := by omega
        have u0 : use j = 0 := by simpa using b3
        rw [b4', b5']
        simp only [fp (show j < 2 ^ 31 by omega), gp (show 10 * q + j < 2 ^ 31 by omega)]
        refine ⟨?_, rfl, ⟨pU_of h1 (Or.inr rfl), sec_upd h2, sec_upd h3, sec_upd h4, sec_upd h5, sec_upd h6, ?_⟩, oQ.up hj, oQ.up hj, oQ.up hj, oQ.up hj, oQ.up hj⟩
        · show f_gr (nI j) = if 0 ≤ nI (10 * q + j) then 1 else 4
          unfold f_gr
          rw [if_neg (zm1 (by omega)), if_pos (nI_pos' (by omega))]
        · show f_inc cnt (nI j) = nI (cU (upd use j 1) 10)
          unfold f_inc
          rw [if_neg (zm1 (by omega)), cU_up hj u0 (by decide), h7, nI_1]
    · -- the session is there
      have hj : j < 10 := by omega
      have a4' : f_find use src prt 10 s p = nI j := a4
      have a5' : g_sess opn ssr spo q s p = nI (10 * q + j) := a5
      have nj : ¬ f_find use src prt 10 s p = -1 := by rw [a4']; exact zm1 (by omega)
      have e1 : f_fot use src prt 10 s p = nI j := by unfold f_fot; rw [if_neg nj, a4']
      have e2 : f_new use src prt 10 s p = -1 := if_neg nj
      have e3 : g_se opn ssr spo q s p = nI (10 * q + j) := by unfold g_se; rw [a5', if_pos (nI_pos' (by omega))]
      have hs : use j = 1 ∧ src j = s ∧ prt j = p := by
        unfold f_same at a3
        simp only [Bool.and_eq_true, Bool.not_eq_true', beq_eq_false_iff_ne, beq_iff_eq] at a3
        exact ⟨(h1 j hj).resolve_left a3.1.1, a3.1.2, a3.2⟩
      unfold f_rec g_srv f_rnew
      rw [if_pos rfl, if_neg n4, if_pos rfl, if_pos rfl, e1, e2, e3]
      simp only [fpm, fp (show j < 2 ^ 31 by omega), gp (show 10 * q + j < 2 ^ 31 by omega)]
      have id : ∀ {f g : Nat → Int32} {v : Int32}, (∀ e, e < 10 → g (10 * q + e) = f e) → f j = v → ∀ e, e < 10 → upd g (10 * q + j) v (10 * q + e) = f e := fun {f g v} hg hf e he => by
        by_cases z : e = j
        · subst z; rw [pk_us, hf]
        · rw [pk_un (by omega)]; exact hg e he
      refine ⟨?_, rfl, ⟨h1, id h2 hs.1, id h3 hs.2.1, id h4 hs.2.2, sec_upd h5, sec_upd h6, ?_⟩, oQ.up hj, oQ.up hj, oQ.up hj, oQ.up hj, oQ.up hj⟩
      · show f_gr (nI j) = if 0 ≤ nI (10 * q + j) then 1 else 4
        unfold f_gr
        rw [if_neg (zm1 (by omega)), if_pos (nI_pos' (by omega))]
      · show f_inc cnt (-1) = nI (cU use 10)
        exact h7
  · have r2 : f_rnew fl use src prt s p = -1 := if_neg f2
    rw [r2]
    simp only [fpm]
    by_cases f4 : fl = 4
    · unfold f_rec g_srv
      rw [if_neg f2, if_pos f4, if_pos f4]
      rcases A with ⟨a1, a2, a3⟩ | ⟨j, -, a2, a3, a4, a5⟩
      · have a1' : f_find use src prt 10 s p = -1 := a1
        have a2' : g_sess opn ssr spo q s p = -1 := a2
        rw [a1', a2']
        simp only [gpm]
        exact ⟨rfl, rfl, ⟨h1, h2, h3, h4, h5, h6, h7⟩, oQ.rf, oQ.rf, oQ.rf, oQ.rf, oQ.rf⟩
      · have hj : j < 10 := by omega
        have a4' : f_find use src prt 10 s p = nI j := a4
        have a5' : g_sess opn ssr spo q s p = nI (10 * q + j) := a5
        have u0 : ¬ use j = 0 := by
          unfold f_same at a3
          simp only [Bool.and_eq_true, Bool.not_eq_true', beq_eq_false_iff_ne, beq_iff_eq] at a3
          exact a3.1.1
        obtain ⟨k1, k2⟩ := rel_ok hj h7 u0
        rw [a4', a5']
        have e1 : f_relu use (nI j) = upd use j 0 := by unfold f_relu; rw [if_neg (zm1 (by omega)), nI_clamp (by omega), k1]
        have e2 : f_reln use cnt (nI j) = nI (cU (upd use j 0) 10) := by unfold f_reln; rw [if_neg (zm1 (by omega)), nI_clamp (by omega), k2]
        simp only [gp (show 10 * q + j < 2 ^ 31 by omega), e1, e2]
        exact ⟨rfl, rfl, ⟨pU_of h1 (Or.inl rfl), sec_upd h2, h3, h4, h5, h6, rfl⟩, oQ.up hj, oQ.rf, oQ.rf, oQ.rf, oQ.rf⟩
    · unfold f_rec g_srv
      rw [if_neg f2, if_neg f4, if_neg f4, if_neg f2]
      rcases A with ⟨a1, a2, a3⟩ | ⟨j, -, a2, a3, a4, a5⟩
      · have a1' : f_find use src prt 10 s p = -1 := a1
        have a2' : g_sess opn ssr spo q s p = -1 := a2
        rw [if_pos a1', a2', if_neg hzn]
        exact ⟨rfl, rfl, ⟨h1, h2, h3, h4, h5, h6, h7⟩, oQ.rf, oQ.rf, oQ.rf, oQ.rf, oQ.rf⟩
      · have hj : j < 10 := by omega
        have a4' : f_find use src prt 10 s p = nI j := a4
        have a5' : g_sess opn ssr spo q s p = nI (10 * q + j) := a5
        have nj : ¬ f_find use src prt 10 s p = -1 := by rw [a4']; exact zm1 (by omega)
        have u0 : ¬ use j = 0 := by
          unfold f_same at a3
          simp only [Bool.and_eq_true, Bool.not_eq_true', beq_eq_false_iff_ne, beq_iff_eq] at a3
          exact a3.1.1
        obtain ⟨k1, k2⟩ := rel_ok hj h7 u0
        rw [if_neg nj, a4', a5', if_pos (nI_pos' (by omega)), nI_clamp (by omega), nI_clamp (by omega), h5 j hj, h6 j hj]
        unfold f_gor f_goi f_gou f_gon
        by_cases x : sq = nx j
        · rw [if_pos x, if_pos x, if_pos x, if_pos x, if_pos x, if_pos x.symm]
          by_cases f16 : fl = 16
          · have f17 : ¬ fl = 17 := by rw [f16]; decide
            rw [if_pos f16, if_pos f16, if_pos f16, if_pos f16, if_pos f16, if_neg f17, pk_us]
            exact ⟨rfl, rfl, ⟨h1, h2, h3, h4, sec_upd h5, sec_upd h6, h7⟩, oQ.rf, oQ.rf, oQ.rf, oQ.up hj, oQ.up hj⟩
          · have f17 : fl = 17 := by
              rcases hfl with z | z | z | z
              · exact absurd z f2
              · exact absurd z f16
              · exact z
              · exact absurd z f4
            rw [if_neg f16, if_neg f16, if_neg f16, if_neg f16, if_neg f16, if_pos f17, k1, k2]
            exact ⟨rfl, rfl, ⟨pU_of h1 (Or.inl rfl), sec_upd h2, h3, h4, h5, h6, rfl⟩, oQ.up hj, oQ.rf, oQ.rf, oQ.rf, oQ.rf⟩
        · rw [if_neg x, if_neg x, if_neg x, if_neg x, if_neg x, if_neg (fun z => x z.symm)]
          exact ⟨rfl, rfl, ⟨h1, h2, h3, h4, h5, h6, h7⟩, oQ.rf, oQ.rf, oQ.rf, oQ.rf, oQ.rf⟩
