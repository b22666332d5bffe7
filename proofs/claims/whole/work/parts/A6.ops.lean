/-! what goes all at once: entries and sessions of both sides -/
theorem relP_at {P : Nat → Bool} : ∀ (k j : Nat) (use : Nat → Int32) (cnt : Int32) (i : Nat), (f_relP P k j use cnt).1 i = if (j ≤ i ∧ i < j + k) ∧ P i = true then 0 else use i
  | 0, j, use, cnt, i => by rw [if_neg (fun h => by omega)]; rfl
  | k + 1, j, use, cnt, i => by
    have hru : ∀ i, f_ru use j i = if i = j then 0 else use i := fun i => by
      unfold f_ru
      by_cases z : i = j
      · subst z
        rw [if_pos rfl]
        by_cases u : use i = 0
        · rw [if_pos u, u]
        · rw [if_neg u, pk_us]
      · rw [if_neg z]
        by_cases u : use j = 0
        · rw [if_pos u]
        · rw [if_neg u, pk_un z]
    simp only [f_relP]
    by_cases p : P j = true
    · rw [if_pos p, relP_at k (j + 1), hru]
      by_cases z : i = j
      · subst z; rw [if_pos rfl, ite_self, if_pos ⟨by omega, p⟩]
      · rw [if_neg z]
        by_cases c : (j + 1 ≤ i ∧ i < j + 1 + k) ∧ P i = true
        · rw [if_pos c, if_pos ⟨by omega, c.2⟩]
        · rw [if_neg c, if_neg (fun h => c ⟨by omega, h.2⟩)]
    · rw [if_neg p, relP_at k (j + 1)]
      by_cases z : i = j
      · subst z; rw [if_neg (fun h => p h.2), if_neg (fun h => p h.2)]
      · by_cases c : (j + 1 ≤ i ∧ i < j + 1 + k) ∧ P i = true
        · rw [if_pos c, if_pos ⟨by omega, c.2⟩]
        · rw [if_neg c, if_neg (fun h => c ⟨by omega, h.2⟩)]
theorem relP_cnt {P : Nat → Bool} {N : Nat} : ∀ (k j : Nat) (use : Nat → Int32) (cnt : Int32), j + k ≤ N → cnt = nI (cU use N) → (f_relP P k j use cnt).2 = nI (cU (f_relP P k j use cnt).1 N)
  | 0, j, use, cnt, _, h => h
  | k + 1, j, use, cnt, hk, h => by
    simp only [f_relP]
    by_cases p : P j = true
    · rw [if_pos p]
      refine relP_cnt k (j + 1) _ _ (by omega) ?_
      by_cases u : use j = 0
      · unfold f_rn f_ru; rw [if_pos u, if_pos u]; exact h
      · obtain ⟨k1, k2⟩ := rel8 (k := N) (by omega) h u
        rw [k1, k2]
    · rw [if_neg p]
      exact relP_cnt k (j + 1) _ _ (by omega) h
theorem all_relP : ∀ (k j : Nat) (use : Nat → Int32) (cnt : Int32), f_all k j use cnt = f_relP (fun _ => true) k j use cnt
  | 0, _, _, _ => rfl
  | k + 1, j, use, cnt => by simp only [f_all, f_relP, if_true]; exact all_relP k (j + 1) _ _
/-- many entries go at once -/
theorem rE_rel {n b : Nat} {P : Nat → Bool} {src prt use sv pat lu up up' : Nat → Int32} {cnt : Int32} {esr epo gol usd pha pha' : Nat → Int32} (h : rE n b src prt use sv pat lu up cnt esr epo gol usd pha) (h0 : ∀ e, e < 8 → use e = 0 → pha' (8 * b + e) = 0) (h1 : ∀ e, e < 8 → ¬ use e = 0 → P e = true → pha' (8 * b + e) = 0) (h2 : ∀ e, e < 8 → ¬ use e = 0 → ¬ P e = true → pha' (8 * b + e) = pha (8 * b + e)) (h3 : ∀ e, e < 8 → ¬ use e = 0 → ¬ P e = true → ¬ up' (sv e).toNatClampNeg = 0) :
    rE n b src prt (f_relP P 8 0 use cnt).1 sv pat lu up' (f_relP P 8 0 use cnt).2 esr epo gol usd pha' := by
  obtain ⟨g1, g2, g3, g4, g5, g6, g7, g8⟩ := h
  have A : ∀ e, e < 8 → (f_relP P 8 0 use cnt).1 e = if P e = true then 0 else use e := fun e he => by
    rw [relP_at]
    by_cases p : P e = true
    · rw [if_pos p, if_pos ⟨by omega, p⟩]
    · rw [if_neg p, if_neg (fun h => p h.2)]
  refine ⟨fun e he => ?_, g2, g3, g4, g5, fun e he hz => ?_, fun e he hz => ?_, relP_cnt 8 0 _ _ (by omega) g8⟩
  · rw [A e he]; split
    · exact Or.inl rfl
    · exact g1 e he
  · rw [A e he] at hz
    by_cases u : use e = 0
    · exact h0 e he u
    · by_cases p : P e = true
      · exact h1 e he u p
      · rw [if_neg p] at hz; exact absurd hz u
  · rw [A e he] at hz
    by_cases p : P e = true
    · rw [if_pos p] at hz; exact absurd rfl hz
    · rw [if_neg p] at hz
      have g := g7 e he hz
      rw [h2 e he hz p]
      exact ⟨g.1, g.2.1, g.2.2.1, h3 e he hz p⟩
theorem tick_at (usd : Nat → Int32) (t : Int32) : ∀ (k e : Nat) (pha : Nat → Int32) (i : Nat), g_tick usd t k e pha i = if (e ≤ i ∧ i < e + k) ∧ ¬ t - usd i ≤ pha i then 0 else pha i
  | 0, e, pha, i => by rw [if_neg (fun h => by omega)]; rfl
  | k + 1, e, pha, i => by
    simp only [g_tick]
    by_cases p : t - usd e ≤ pha e
    · rw [if_pos p, tick_at usd t k (e + 1)]
      by_cases z : i = e
      · subst z; rw [if_neg (fun h => h.2 p), if_neg (fun h => h.2 p)]
      · by_cases c : (e + 1 ≤ i ∧ i < e + 1 + k) ∧ ¬ t - usd i ≤ pha i
        · rw [if_pos c, if_pos ⟨by omega, c.2⟩]
        · rw [if_neg c, if_neg (fun h => c ⟨by omega, h.2⟩)]
    · rw [if_neg p, tick_at usd t k (e + 1)]
      by_cases z : i = e
      · subst z; rw [if_neg (fun h => by omega), pk_us, if_pos ⟨by omega, p⟩]
      · rw [pk_un z]
        by_cases c : (e + 1 ≤ i ∧ i < e + 1 + k) ∧ ¬ t - usd i ≤ pha i
        · rw [if_pos c, if_pos ⟨by omega, c.2⟩]
        · rw [if_neg c, if_neg (fun h => c ⟨by omega, h.2⟩)]
theorem purge_at (dwn gol : Nat → Int32) (b : Nat) : ∀ (k e : Nat) (pha : Nat → Int32) (i : Nat), g_purge dwn gol b k e pha i = if (e ≤ i ∧ i < e + k) ∧ ¬ pha i ≤ 0 ∧ ¬ dwn (8 * b + (gol i).toNatClampNeg) = 0 then 0 else pha i
  | 0, e, pha, i => by rw [if_neg (fun h => by omega)]; rfl
  | k + 1, e, pha, i => by
    simp only [g_purge]
    have same : ¬ (¬ pha e ≤ 0 ∧ ¬ dwn (8 * b + (gol e).toNatClampNeg) = 0) → g_purge dwn gol b k (e + 1) pha i = if (e ≤ i ∧ i < e + (k + 1)) ∧ ¬ pha i ≤ 0 ∧ ¬ dwn (8 * b + (gol i).toNatClampNeg) = 0 then 0 else pha i := fun p => by
      rw [purge_at dwn gol b k (e + 1)]
      by_cases z : i = e
      · subst z; rw [if_neg (fun h => p h.2), if_neg (fun h => p h.2)]
      · by_cases c : (e + 1 ≤ i ∧ i < e + 1 + k) ∧ ¬ pha i ≤ 0 ∧ ¬ dwn (8 * b + (gol i).toNatClampNeg) = 0
        · rw [if_pos c, if_pos ⟨by omega, c.2⟩]
        · rw [if_neg c, if_neg (fun h => c ⟨by omega, h.2⟩)]
    by_cases p : pha e ≤ 0
    · rw [if_pos p]; exact same (fun h => h.1 p)
    · rw [if_neg p]
      by_cases d : dwn (8 * b + (gol e).toNatClampNeg) = 0
      · rw [if_pos d]; exact same (fun h => h.2 d)
      · rw [if_neg d, purge_at dwn gol b k (e + 1)]
        by_cases z : i = e
        · subst z; rw [if_neg (fun h => by omega), pk_us, if_pos ⟨by omega, p, d⟩]
        · rw [pk_un z]
          by_cases c : (e + 1 ≤ i ∧ i < e + 1 + k) ∧ ¬ pha i ≤ 0 ∧ ¬ dwn (8 * b + (gol i).toNatClampNeg) = 0
          · rw [if_pos c, if_pos ⟨by omega, c.2⟩]
          · rw [if_neg c, if_neg (fun h => c ⟨by omega, h.2⟩)]
/-- the clock -/
theorem rE_tick {n b : Nat} (hb : b < 4) {src prt use sv pat lu up : Nat → Int32} {cnt : Int32} {esr epo gol usd pha : Nat → Int32} (h : rE n b src prt use sv pat lu up cnt esr epo gol usd pha) (t : Int32) :
    rE n b src prt (f_relP (f_old lu pat t) 8 0 use cnt).1 sv pat lu up (f_relP (f_old lu pat t) 8 0 use cnt).2 esr epo gol usd (g_tick usd t 32 0 pha) := by
  obtain ⟨g1, g2, g3, g4, g5, g6, g7, g8⟩ := id h
  refine rE_rel h (fun e he u => ?_) (fun e he u p => ?_) (fun e he u p => ?_) (fun e he u p => (g7 e he u).2.2.2)
  · rw [tick_at, g6 e he u]; split <;> rfl
  · have g := g7 e he u
    unfold f_old at p
    rw [g.2.1, g.2.2.1] at p
    have p' : ¬ t - usd (8 * b + e) ≤ pha (8 * b + e) := by simpa using p
    rw [tick_at, if_pos ⟨by omega, p'⟩]
  · have g := g7 e he u
    unfold f_old at p
    rw [g.2.1, g.2.2.1] at p
    have p' : t - usd (8 * b + e) ≤ pha (8 * b + e) := by simpa using p
    rw [tick_at, if_neg (fun h => h.2 p')]
/-- behind a probe: entries of servers that went down -/
theorem rE_purge {n b : Nat} (hn : n ≤ 8) {src prt use sv pat lu up up' : Nat → Int32} {cnt : Int32} {esr epo gol usd pha dwn : Nat → Int32} (h : rE n b src prt use sv pat lu up cnt esr epo gol usd pha) (hu : ∀ k, k < n → (up' k = 0 ↔ ¬ dwn (8 * b + k) = 0)) :
    rE n b src prt (f_relP (f_dn up' sv) 8 0 use cnt).1 sv pat lu up' (f_relP (f_dn up' sv) 8 0 use cnt).2 esr epo gol usd (g_purge dwn gol b 8 (8 * b) pha) := by
  obtain ⟨g1, g2, g3, g4, g5, g6, g7, g8⟩ := id h
  have hk : ∀ e, e < 8 → (sv e).toNatClampNeg < n := fun e he => (zcl (by omega) (g5 e he)).2
  refine rE_rel h (fun e he u => ?_) (fun e he u p => ?_) (fun e he u p => ?_) (fun e he u p => ?_)
  · rw [purge_at, g6 e he u]; split <;> rfl
  · have p' : up' (sv e).toNatClampNeg = 0 := by simpa [f_dn] using p
    rw [purge_at, if_pos ⟨by omega, (g7 e he u).1, by rw [g4 e he]; exact (hu _ (hk e he)).mp p'⟩]
  · have p' : ¬ up' (sv e).toNatClampNeg = 0 := by simpa [f_dn] using p
    rw [purge_at, if_neg (fun z => p' ((hu _ (hk e he)).mpr (by have := z.2.2; rw [g4 e he] at this; exact this)))]
  · simpa [f_dn] using p
/-- a balancer goes off -/
theorem rE_off {n b : Nat} {src prt use sv pat lu up up' : Nat → Int32} {cnt : Int32} {esr epo gol usd pha : Nat → Int32} (h : rE n b src prt use sv pat lu up cnt esr epo gol usd pha) :
    rE n b src prt (f_all 8 0 use cnt).1 sv pat lu up' (f_all 8 0 use cnt).2 esr epo gol usd (f_fill 8 (8 * b) 0 pha) := by
  rw [all_relP]
  exact rE_rel h (fun e he u => by rw [f_fill_at, if_pos (by omega)]) (fun e he u p => by rw [f_fill_at, if_pos (by omega)]) (fun e he u p => absurd rfl p) (fun e he u p => absurd rfl p)
theorem oE_purge {b : Nat} {dwn gol pha : Nat → Int32} : oE b pha (g_purge dwn gol b 8 (8 * b) pha) := fun i h => by rw [purge_at, if_neg (fun z => by omega)]
theorem oE_fill {b : Nat} {pha : Nat → Int32} : oE b pha (f_fill 8 (8 * b) 0 pha) := fun i h => by rw [f_fill_at, if_neg (by omega)]
theorem oQ_fill {q : Nat} {opn : Nat → Int32} : oQ q opn (f_fill 10 (10 * q) 0 opn) := fun i h => by rw [f_fill_at, if_neg (by omega)]
/-- a server goes off or on: all its sessions are gone -/
theorem rQ_all {q : Nat} {src prt use nx dt : Nat → Int32} {cnt : Int32} {opn ssr spo awa dat : Nat → Int32} (h : rQ q src prt use nx dt cnt opn ssr spo awa dat) :
    rQ q src prt (f_all 10 0 use cnt).1 nx dt (f_all 10 0 use cnt).2 (f_fill 10 (10 * q) 0 opn) ssr spo awa dat ∧ ∀ e, e < 10 → (f_all 10 0 use cnt).1 e = 0 := by
  obtain ⟨h1, h2, h3, h4, h5, h6, h7⟩ := h
  rw [all_relP]
  have A : ∀ e, e < 10 → (f_relP (fun _ => true) 10 0 use cnt).1 e = 0 := fun e he => by rw [relP_at, if_pos ⟨by omega, rfl⟩]
  refine ⟨⟨fun e he => Or.inl (A e he), fun e he => ?_, h3, h4, h5, h6, relP_cnt 10 0 _ _ (by omega) h7⟩, A⟩
  rw [A e he, f_fill_at, if_pos (by omega)]
theorem rQ_none {q : Nat} {src prt use nx dt : Nat → Int32} {cnt : Int32} {opn ssr spo awa dat : Nat → Int32} (h : rQ q src prt use nx dt cnt opn ssr spo awa dat) (hz : ∀ e, e < 10 → use e = 0) : rQ q src prt use nx dt cnt (f_fill 10 (10 * q) 0 opn) ssr spo awa dat := by
  obtain ⟨h1, h2, h3, h4, h5, h6, h7⟩ := h
  refine ⟨h1, fun e he => ?_, h3, h4, h5, h6, h7⟩
  rw [hz e he, f_fill_at, if_pos (by omega)]
theorem pow_step {q : Nat} {src prt use nx dt : Nat → Int32} {cnt on o : Int32} {opn ssr spo awa dat off : Nat → Int32} (h : rQ q src prt use nx dt cnt opn ssr spo awa dat) (hon : on = 0 ∨ on = 1) (ho : o = 0 ∨ o = 1) (hf : off q = f_not on) (hz : on = 0 → ∀ e, e < 10 → use e = 0) :
    f_seton on o = g_pow off q o ∧ rQ q src prt (f_onuse on o use cnt).1 nx dt (f_onuse on o use cnt).2 (g_popn off opn q o) ssr spo awa dat ∧ oQ q opn (g_popn off opn q o) ∧ g_poff off q o q = f_not o ∧ (∀ j, j ≠ q → g_poff off q o j = off j) ∧ (o = 0 → ∀ e, e < 10 → (f_onuse on o use cnt).1 e = 0) := by
  unfold f_seton g_pow f_onuse g_popn g_poff
  by_cases e : on = o
  · have e2 : ¬ off q = o := by rw [hf, e]; rcases ho with z | z <;> subst z <;> decide
    simp only [if_pos e, if_neg e2]
    exact ⟨by trivial, h, oQ.rf, by rw [hf, e], by intros; trivial, fun z => hz (e.trans z)⟩
  · have e2 : off q = o := by
      rw [hf]
      rcases ho with z | z <;> rcases hon with w | w <;> subst z <;> subst w
      · exact absurd rfl e
      · decide
      · decide
      · exact absurd rfl e
    simp only [if_neg e, if_pos e2]
    by_cases o0 : o = 0
    · simp only [if_pos o0]
      obtain ⟨k1, k2⟩ := rQ_all h
      exact ⟨by trivial, k1, oQ_fill, by rw [pk_us, o0]; rfl, fun j hj => pk_un hj, fun _ => k2⟩
    · simp only [if_neg o0]
      have on0 : on = 0 := by
        rcases hon with w | w
        · exact w
        · rcases ho with z | z
          · exact absurd z o0
          · exact absurd (w.trans z.symm) e
      exact ⟨by trivial, rQ_none h (hz on0), oQ_fill, by rw [pk_us]; unfold f_not; rw [if_neg o0], fun j hj => pk_un hj, fun z => absurd z o0⟩
theorem live_step {n b : Nat} {src prt use sv pat lu up : Nat → Int32} {cnt on o : Int32} {esr epo gol usd pha alv : Nat → Int32} (h : rE n b src prt use sv pat lu up cnt esr epo gol usd pha) (ha : alv b = on) :
    f_seton on o = g_liv alv b o ∧ rE n b src prt (f_liveuse on o use cnt).1 sv pat lu up (f_liveuse on o use cnt).2 esr epo gol usd (g_lpha alv pha b o) ∧ oE b pha (g_lpha alv pha b o) := by
  unfold f_seton g_liv f_liveuse g_lpha
  rw [ha]
  by_cases e : on = o
  · simp only [if_pos e]; exact ⟨by trivial, h, oE.rf⟩
  · simp only [if_neg e]
    by_cases o0 : o = 0
    · simp only [if_pos o0]; exact ⟨by trivial, rE_off h, oE_fill⟩
    · simp only [if_neg o0]; exact ⟨by trivial, h, oE.rf⟩
/-! counts -/
theorem fc_cN {P : Nat → Bool} : ∀ (k j c : Nat), f_count P k j c + cN P j = c + cN P (j + k)
  | 0, j, c => rfl
  | k + 1, j, c => by
    have h := fc_cN (P := P) k (j + 1) (if P j = true then c + 1 else c)
    simp only [f_count]
    rw [show j + (k + 1) = j + 1 + k by omega]
    simp only [cN] at h
    by_cases p : P j = true
    · rw [if_pos p] at h ⊢; rw [if_pos p] at h; omega
    · rw [if_neg p] at h ⊢; rw [if_neg p] at h; omega
theorem fc0 {P : Nat → Bool} {k : Nat} : f_count P k 0 0 = cN P k := by
  have h := fc_cN (P := P) k 0 0
  rw [Nat.zero_add, Nat.zero_add] at h
  simp only [cN] at h
  omega
theorem cN_congr {P Q : Nat → Bool} : ∀ k, (∀ i, i < k → P i = Q i) → cN P k = cN Q k
  | 0, _ => rfl
  | k + 1, h => by simp only [cN]; rw [h k (by omega), cN_congr k (fun i hi => h i (by omega))]
theorem l2_cN (opn : Nat → Int32) (q : Nat) : ∀ (k j c : Nat), g_l2 opn q k j c + 100 * cN (fun e => !(opn (10 * q + e) == 0)) j = c + 100 * cN (fun e => !(opn (10 * q + e) == 0)) (j + k)
  | 0, j, c => rfl
  | k + 1, j, c => by
    have h := l2_cN opn q k (j + 1) (if opn (10 * q + j) = 0 then c else c + 100)
    simp only [g_l2]
    rw [show j + (k + 1) = j + 1 + k by omega]
    simp only [cN] at h
    by_cases p : opn (10 * q + j) = 0
    · have p2 : ¬ (!(opn (10 * q + j) == 0)) = true := by simp [p]
      rw [if_pos p] at h ⊢; rw [if_neg p2] at h; omega
    · have p2 : (!(opn (10 * q + j) == 0)) = true := by simpa using p
      rw [if_neg p] at h ⊢; rw [if_pos p2] at h; omega
theorem lc1_eq {n b : Nat} {src prt use sv pat lu up : Nat → Int32} {cnt : Int32} {esr epo gol usd pha : Nat → Int32} (h : rE n b src prt use sv pat lu up cnt esr epo gol usd pha) : cnt = nI (g_l1 pha b) ∧ g_l1 pha b ≤ 8 := by
  obtain ⟨h1, h2, h3, h4, h5, h6, h7, h8⟩ := h
  have e : g_l1 pha b = cU use 8 := by
    unfold g_l1 cU
    rw [fc0]
    refine cN_congr 8 (fun i hi => ?_)
    by_cases u : use i = 0
    · rw [u, h6 i hi u]; rfl
    · have hu : (use i == 0) = false := by simpa using u
      rw [hu, decide_eq_false (h7 i hi u).1]
  rw [e]
  exact ⟨h8, cU_le _ _⟩
theorem lc2_eq {q : Nat} {src prt use nx dt : Nat → Int32} {cnt : Int32} {opn ssr spo awa dat : Nat → Int32} (h : rQ q src prt use nx dt cnt opn ssr spo awa dat) (c : Nat) : ∃ d, d ≤ 10 ∧ cnt = nI d ∧ g_l2 opn q 10 0 c = c + 100 * d := by
  obtain ⟨h1, h2, h3, h4, h5, h6, h7⟩ := h
  refine ⟨cU use 10, cU_le _ _, h7, ?_⟩
  have e := l2_cN opn q 10 0 c
  have e2 : cN (fun e => !(opn (10 * q + e) == 0)) (0 + 10) = cU use 10 := cN_congr 10 (fun i hi => by rw [h2 i hi])
  rw [e2] at e
  simp only [cN] at e
  omega
