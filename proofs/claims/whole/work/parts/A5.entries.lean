/-! entries of a balancer: both sides -/
def rE (n b : Nat) (src prt use sv pat lu up : Nat → Int32) (cnt : Int32) (esr epo gol usd pha : Nat → Int32) : Prop :=
  (∀ e, e < 8 → use e = 0 ∨ use e = 1) ∧ (∀ e, e < 8 → esr (8 * b + e) = src e) ∧ (∀ e, e < 8 → epo (8 * b + e) = prt e) ∧ (∀ e, e < 8 → gol (8 * b + e) = sv e) ∧ (∀ e, e < 8 → vp_in (sv e) n) ∧ (∀ e, e < 8 → use e = 0 → pha (8 * b + e) = 0) ∧ (∀ e, e < 8 → ¬ use e = 0 → ¬ pha (8 * b + e) ≤ 0 ∧ pat e = pha (8 * b + e) ∧ lu e = usd (8 * b + e) ∧ ¬ up (sv e).toNatClampNeg = 0) ∧ cnt = nI (cU use 8)
/-- outside of balancer b's eight places nothing changes -/
def oE (b : Nat) (f g : Nat → Int32) : Prop := ∀ i, (i < 8 * b ∨ 8 * b + 8 ≤ i) → g i = f i
theorem oE.rf {b : Nat} {f : Nat → Int32} : oE b f f := fun _ _ => rfl
theorem oE.up {b j : Nat} {f : Nat → Int32} {v : Int32} (hj : j < 8) : oE b f (upd f (8 * b + j) v) := fun i h => sec_out hj h
theorem esame {n b : Nat} {src prt use sv pat lu up : Nat → Int32} {cnt : Int32} {esr epo gol usd pha : Nat → Int32} (h : rE n b src prt use sv pat lu up cnt esr epo gol usd pha) (s p : Int32) : ∀ j, 0 ≤ j → j < 0 + 8 → g_same pha esr epo s p (8 * b + j) = f_same use src prt s p j := fun j _ hj => by
  obtain ⟨h1, h2, h3, h4, h5, h6, h7, h8⟩ := h
  have hj : j < 8 := by omega
  unfold g_same f_same
  rw [h2 j hj, h3 j hj]
  by_cases u : use j = 0
  · rw [u, h6 j hj u]; rfl
  · have h9 := (h7 j hj u).1
    have hu : (use j == 0) = false := by simpa using u
    rw [hu, decide_eq_false h9]
theorem efree {n b : Nat} {src prt use sv pat lu up : Nat → Int32} {cnt : Int32} {esr epo gol usd pha : Nat → Int32} (h : rE n b src prt use sv pat lu up cnt esr epo gol usd pha) : ∀ j, 0 ≤ j → j < 0 + 8 → (fun e => pha e == 0) (8 * b + j) = (fun e => use e == 0) j := fun j _ hj => by
  obtain ⟨h1, h2, h3, h4, h5, h6, h7, h8⟩ := h
  have hj : j < 8 := by omega
  show (pha (8 * b + j) == 0) = (use j == 0)
  by_cases u : use j = 0
  · rw [u, h6 j hj u]
  · have h9 : ¬ pha (8 * b + j) = 0 := fun z => (h7 j hj u).1 (by rw [z]; exact Int32.le_refl 0)
    have hu : (use j == 0) = false := by simpa using u
    have hv : (pha (8 * b + j) == 0) = false := by simpa using h9
    rw [hu, hv]
theorem upd_id {f : Nat → Int32} {j : Nat} {v : Int32} (h : f j = v) : upd f j v = f := funext fun e => by
  by_cases z : e = j
  · subst z; rw [pk_us, h]
  · rw [pk_un z]
theorem rel8 {use : Nat → Int32} {cnt : Int32} {j k : Nat} (hj : j < k) (hc : cnt = nI (cU use k)) (h0 : ¬ use j = 0) : f_ru use j = upd use j 0 ∧ f_rn use cnt j = nI (cU (upd use j 0) k) := by
  unfold f_ru f_rn
  rw [if_neg h0, if_neg h0, hc, cU_dn hj h0]
  exact ⟨rfl, nI_pred _⟩
theorem p8 {use : Nat → Int32} {j N : Nat} {v : Int32} (h : ∀ e, e < N → use e = 0 ∨ use e = 1) (hv : v = 0 ∨ v = 1) : ∀ e, e < N → upd use j v e = 0 ∨ upd use j v e = 1 := fun e he => by
  by_cases z : e = j
  · subst z; rw [pk_us]; exact hv
  · rw [pk_un z]; exact h e he
/-- an entry is written (anew or again) at place j -/
theorem rE_put {n b j q : Nat} (hj : j < 8) (hq : q < n) (hn : n < 2 ^ 31) {src prt use sv pat lu up : Nat → Int32} {cnt : Int32} {esr epo gol usd pha : Nat → Int32} (h : rE n b src prt use sv pat lu up cnt esr epo gol usd pha) (s p t ph : Int32) (hp : ¬ ph ≤ 0) (hu : ¬ up q = 0) :
    rE n b (upd src j s) (upd prt j p) (upd use j 1) (upd sv j (nI q)) (upd pat j ph) (upd lu j t) up (if use j = 0 then cnt + 1 else cnt) (upd esr (8 * b + j) s) (upd epo (8 * b + j) p) (upd gol (8 * b + j) (nI q)) (upd usd (8 * b + j) t) (upd pha (8 * b + j) ph) := by
  obtain ⟨h1, h2, h3, h4, h5, h6, h7, h8⟩ := h
  refine ⟨p8 h1 (Or.inr rfl), sec_upd h2, sec_upd h3, sec_upd h4, fun e he => ?_, fun e he hz => ?_, fun e he hz => ?_, ?_⟩
  · by_cases z : e = j
    · subst z; rw [pk_us]; exact vp_in_nI hq hn
    · rw [pk_un z]; exact h5 e he
  · by_cases z : e = j
    · subst z; rw [pk_us] at hz; exact absurd hz (by decide)
    · rw [pk_un z] at hz; rw [pk_un (by omega)]; exact h6 e he hz
  · by_cases z : e = j
    · subst z
      rw [pk_us, pk_us, pk_us, pk_us, pk_us, nI_clamp (by omega)]
      exact ⟨hp, rfl, rfl, hu⟩
    · rw [pk_un z] at hz
      rw [pk_un z, pk_un z, pk_un z, pk_un (by omega), pk_un (by omega)]
      exact h7 e he hz
  · by_cases u : use j = 0
    · rw [if_pos u, cU_up hj u (by decide), h8, nI_1]
    · rw [if_neg u, show upd use j 1 = use from upd_id ((h1 j hj).resolve_left u)]
      exact h8
/-- an entry goes -/
theorem rE_del {n b j : Nat} (hj : j < 8) {src prt use sv pat lu up : Nat → Int32} {cnt : Int32} {esr epo gol usd pha : Nat → Int32} (h : rE n b src prt use sv pat lu up cnt esr epo gol usd pha) (h0 : ¬ use j = 0) {esr' epo' gol' usd' : Nat → Int32} (e1 : ∀ e, e < 8 → esr' (8 * b + e) = esr (8 * b + e)) (e2 : ∀ e, e < 8 → epo' (8 * b + e) = epo (8 * b + e)) (e3 : ∀ e, e < 8 → gol' (8 * b + e) = gol (8 * b + e)) (e4 : ∀ e, e < 8 → e ≠ j → usd' (8 * b + e) = usd (8 * b + e)) :
    rE n b src prt (f_ru use j) sv pat lu up (f_rn use cnt j) esr' epo' gol' usd' (upd pha (8 * b + j) 0) := by
  obtain ⟨h1, h2, h3, h4, h5, h6, h7, h8⟩ := h
  obtain ⟨k1, k2⟩ := rel8 hj h8 h0
  rw [k1, k2]
  refine ⟨p8 h1 (Or.inl rfl), fun e he => by rw [e1 e he]; exact h2 e he, fun e he => by rw [e2 e he]; exact h3 e he, fun e he => by rw [e3 e he]; exact h4 e he, h5, fun e he hz => ?_, fun e he hz => ?_, rfl⟩
  · by_cases z : e = j
    · subst z; rw [pk_us]
    · rw [pk_un z] at hz; rw [pk_un (by omega)]; exact h6 e he hz
  · by_cases z : e = j
    · subst z; rw [pk_us] at hz; exact absurd rfl hz
    · rw [pk_un z] at hz
      rw [pk_un (by omega), e4 e he z]
      exact h7 e he hz
theorem ph_pos {fl : Int32} (h : fl = 2 ∨ fl = 16 ∨ fl = 17) : f_pat fl = g_ph fl ∧ ¬ g_ph fl ≤ 0 := by
  rcases h with h | h | h <;> subst h <;> decide
theorem note_step {n b q : Nat} (hb : b < 4) (hq : q < n) (hn : n ≤ 8) {src prt use sv pat lu up : Nat → Int32} {cnt : Int32} {esr epo gol usd pha : Nat → Int32} (h : rE n b src prt use sv pat lu up cnt esr epo gol usd pha) (s p t fl : Int32) (hfl : fl = 2 ∨ fl = 16 ∨ fl = 17 ∨ fl = 4) (hu : ¬ up q = 0) (hk : ¬ f_find use src prt 8 s p = -1 → sv (f_find use src prt 8 s p).toNatClampNeg = nI q) :
    rE n b (f_put src (f_enew fl use src prt s p) s) (f_put prt (f_enew fl use src prt s p) p) (f_euse fl use src prt s p) (f_eput fl sv use src prt s p (nI q)) (f_eput fl pat use src prt s p (f_pat fl)) (f_eput fl lu use src prt s p t) up (f_ecnt fl cnt use src prt s p) (g_put esr (g_at2 fl (g_slot pha esr epo b s p) pha b) s) (g_put epo (g_at2 fl (g_slot pha esr epo b s p) pha b) p) (g_put gol (g_at2 fl (g_slot pha esr epo b s p) pha b) (nI q)) (g_put usd (g_at2 fl (g_slot pha esr epo b s p) pha b) t) (g_put pha (g_at2 fl (g_slot pha esr epo b s p) pha b) (g_ph fl))
    ∧ oE b esr (g_put esr (g_at2 fl (g_slot pha esr epo b s p) pha b) s) ∧ oE b epo (g_put epo (g_at2 fl (g_slot pha esr epo b s p) pha b) p) ∧ oE b gol (g_put gol (g_at2 fl (g_slot pha esr epo b s p) pha b) (nI q)) ∧ oE b usd (g_put usd (g_at2 fl (g_slot pha esr epo b s p) pha b) t) ∧ oE b pha (g_put pha (g_at2 fl (g_slot pha esr epo b s p) pha b) (g_ph fl)) := by
  have A := ff2 (c := 8 * b) 8 0 (esame h s p)
  have hzn : ¬ (0 : Int32) ≤ -1 := by decide
  rcases A with ⟨a1, a2, a3⟩ | ⟨j, -, a2, a3, a4, a5⟩
  · have a1' : f_find use src prt 8 s p = -1 := a1
    have a2' : g_slot pha esr epo b s p = -1 := a2
    by_cases f2 : fl = 2
    · subst f2
      have n4 : ¬ (2 : Int32) = 4 := by decide
      have Bf := ff2 (P := fun e => use e == 0) (P' := fun e => pha e == 0) (c := 8 * b) 8 0 (efree h)
      have e1 : f_eslot 2 use src prt s p = f_free use 8 := by unfold f_eslot f_fot; rw [if_pos rfl, if_pos a1']
      have e2 : f_enew 2 use src prt s p = f_free use 8 := by unfold f_enew f_new; rw [if_pos rfl, if_pos a1']
      have e3 : g_at2 2 (g_slot pha esr epo b s p) pha b = g_free pha b := by unfold g_at2; rw [if_pos rfl, a2', if_neg hzn]
      unfold f_euse f_ecnt f_eput
      rw [if_neg n4, if_neg n4, if_neg n4, if_neg n4, if_neg n4, e1, e2, e3]
      rcases Bf with ⟨b1, b2, b3⟩ | ⟨j, -, b2, b3, b4, b5⟩
      · have b1' : f_free use 8 = -1 := b1
        have b2' : g_free pha b = -1 := b2
        rw [b1', b2']
        simp only [fpm, gpm]
        exact ⟨h, oE.rf, oE.rf, oE.rf, oE.rf, oE.rf⟩
      · have hj : j < 8 := by omega
        have b4' : f_free use 8 = nI j := b4
        have b5' : g_free pha b = nI (8 * b + j) := b5
        have u0 : use j = 0 := by simpa using b3
        rw [b4', b5']
        simp only [fp (show j < 2 ^ 31 by omega), gp (show 8 * b + j < 2 ^ 31 by omega)]
        have R := rE_put hj hq (by omega) h s p t (g_ph 2) (by decide) hu
        rw [if_pos u0] at R
        refine ⟨?_, oE.up hj, oE.up hj, oE.up hj, oE.up hj, oE.up hj⟩
        have e4 : f_inc cnt (nI j) = cnt + 1 := by unfold f_inc; rw [if_neg (zm1 (by omega))]
        rw [e4]
        exact R
    · have e1 : f_eslot fl use src prt s p = -1 := by unfold f_eslot; rw [if_neg f2]; exact a1'
      have e2 : f_enew fl use src prt s p = -1 := by unfold f_enew; rw [if_neg f2]
      have e3 : g_at2 fl (g_slot pha esr epo b s p) pha b = -1 := by unfold g_at2; rw [if_neg f2]; exact a2'
      have i1 : ∀ (f : Nat → Int32) (v : Int32), f_eput fl f use src prt s p v = f := fun f v => by unfold f_eput; rw [e1, fpm]; split <;> rfl
      have i2 : f_euse fl use src prt s p = use := by unfold f_euse; rw [e1, e2, fpm]; split <;> rfl
      have i3 : f_ecnt fl cnt use src prt s p = cnt := by unfold f_ecnt; rw [e1, e2]; split <;> rfl
      simp only [e2, e3, i1, i2, i3, fpm, gpm]
      exact ⟨h, oE.rf, oE.rf, oE.rf, oE.rf, oE.rf⟩
  · have hj : j < 8 := by omega
    have a4' : f_find use src prt 8 s p = nI j := a4
    have a5' : g_slot pha esr epo b s p = nI (8 * b + j) := a5
    have nj : ¬ f_find use src prt 8 s p = -1 := by rw [a4']; exact zm1 (by omega)
    have hs := hk nj
    rw [a4', nI_clamp (by omega)] at hs
    have hh : ¬ use j = 0 ∧ src j = s ∧ prt j = p := by
      unfold f_same at a3
      simp only [Bool.and_eq_true, Bool.not_eq_true', beq_eq_false_iff_ne, beq_iff_eq] at a3
      exact ⟨a3.1.1, a3.1.2, a3.2⟩
    have e1 : f_eslot fl use src prt s p = nI j := by unfold f_eslot f_fot; rw [if_neg nj, a4']; split <;> rfl
    have e2 : f_enew fl use src prt s p = -1 := by unfold f_enew f_new; rw [if_neg nj]; split <;> rfl
    have e3 : g_at2 fl (g_slot pha esr epo b s p) pha b = nI (8 * b + j) := by unfold g_at2; rw [a5', if_pos (nI_pos' (by omega))]; split <;> rfl
    rw [e2, e3]
    simp only [fpm, gp (show 8 * b + j < 2 ^ 31 by omega)]
    by_cases f4 : fl = 4
    · unfold f_euse f_ecnt f_eput f_relu f_reln
      rw [if_pos f4, if_pos f4, if_pos f4, if_pos f4, if_pos f4, e1, if_neg (zm1 (by omega)), if_neg (zm1 (by omega)), nI_clamp (by omega)]
      have g0 : g_ph fl = 0 := by rw [f4]; decide
      rw [g0]
      obtain ⟨h1, h2, h3, h4, h5, h6, h7, h8⟩ := id h
      refine ⟨rE_del hj h hh.1 (fun e he => ?_) (fun e he => ?_) (fun e he => ?_) (fun e he hz => pk_un (by omega)), oE.up hj, oE.up hj, oE.up hj, oE.up hj, oE.up hj⟩
      · rw [upd_id (by rw [h2 j hj]; exact hh.2.1)]
      · rw [upd_id (by rw [h3 j hj]; exact hh.2.2)]
      · rw [upd_id (by rw [h4 j hj]; exact hs)]
    · have h3f : fl = 2 ∨ fl = 16 ∨ fl = 17 := by
        rcases hfl with z | z | z | z
        · exact Or.inl z
        · exact Or.inr (Or.inl z)
        · exact Or.inr (Or.inr z)
        · exact absurd z f4
      obtain ⟨p1, p2⟩ := ph_pos h3f
      unfold f_euse f_ecnt f_eput
      rw [if_neg f4, if_neg f4, if_neg f4, if_neg f4, if_neg f4, e1, e2]
      simp only [fpm, fp (show j < 2 ^ 31 by omega)]
      have R := rE_put hj hq (by omega) h s p t (g_ph fl) p2 hu
      rw [if_neg hh.1, upd_id hh.2.1, upd_id hh.2.2, show upd use j 1 = use from upd_id ((h.1 j hj).resolve_left hh.1)] at R
      rw [p1]
      exact ⟨R, oE.up hj, oE.up hj, oE.up hj, oE.up hj, oE.up hj⟩
