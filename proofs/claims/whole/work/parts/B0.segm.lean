/-! a segment keeps what binds both states -/
theorem gol_put {gol : Nat → Int32} {n q : Nat} {e : Int32} (hq : q < n) (hn : n < 2 ^ 31) (h : ∀ i, i < 32 → vp_in (gol i) n) : ∀ i, i < 32 → vp_in (g_put gol e (nI q) i) n := fun i hi => by
  unfold g_put
  by_cases z : 0 ≤ e
  · rw [if_pos z]
    by_cases w : i = e.toNatClampNeg
    · rw [← w, pk_us]; exact vp_in_nI hq hn
    · rw [pk_un w]; exact h i hi
  · rw [if_neg z]; exact h i hi
/-- the server's side of a segment -/
theorem srv_seg {q : Nat} (hq : q < 8) {src prt use nx dt : Nat → Int32} {cnt tk : Int32} {opn ssr spo awa dat : Nat → Int32} (h : rQ q src prt use nx dt cnt opn ssr spo awa dat) (s p sq fl mt : Int32) (hfl : fl = 2 ∨ fl = 16 ∨ fl = 17 ∨ fl = 4) {R : Int32 × Int32 × (Nat → Int32) × (Nat → Int32) × (Nat → Int32) × Int32} {G : g_V} (hR : f_dm mt tk nx dt use src prt cnt s p sq fl = R) (hG : g_svm opn ssr spo awa dat q s p sq fl mt = G) :
    R.1 = G.1 ∧ f_dt mt R.2.1 = G.2.1 ∧ rQ q (f_ds mt src (f_rnew fl use src prt s p) s) (f_ds mt prt (f_rnew fl use src prt s p) p) R.2.2.2.2.1 R.2.2.1 R.2.2.2.1 R.2.2.2.2.2 G.2.2.1 G.2.2.2.1 G.2.2.2.2.1 G.2.2.2.2.2.1 G.2.2.2.2.2.2 ∧ oQ q opn G.2.2.1 ∧ oQ q ssr G.2.2.2.1 ∧ oQ q spo G.2.2.2.2.1 ∧ oQ q awa G.2.2.2.2.2.1 ∧ oQ q dat G.2.2.2.2.2.2 ∧ (mt = 0 → R.2.2.2.2.1 = use) := by
  subst hR hG
  unfold f_dm g_svm f_dt f_ds
  by_cases z : mt = 0
  · simp only [if_pos z]
    exact ⟨by trivial, by trivial, h, oQ.rf, oQ.rf, oQ.rf, oQ.rf, oQ.rf, by intros; trivial⟩
  · simp only [if_neg z]
    obtain ⟨r1, r2, r3, r4, r5, r6, r7, r8⟩ := srv_step hq h s p sq fl hfl
    exact ⟨r1, r2, r3, r4, r5, r6, r7, r8, fun y => absurd y z⟩
theorem rA_segment {fN sN : Nat → Nat} {m n B : Nat} {u : Nat → Int32} {a : Nat → Nat → Int32} {x : Nat → Int32} {y : Nat → Nat → Int32} {bs : Nat → Nat → Int32} {bf : Nat → Nat → Nat → Int32} {ss : Nat → Nat → Int32} {sf : Nat → Nat → Nat → Int32} (hB4 : B ≤ 4) (hn : n ≤ 8) (h : rA fN sN m n B u a x y bs bf ss sf) {b q : Nat} (hb : b < B) (hq : q < n) (p sq fl : Int32) (hfl : fl = 2 ∨ fl = 16 ∨ fl = 17 ∨ fl = 4) (hu : ¬ bf b 0 q = 0) (hk : ¬ f_find (bf b 7) (bf b 5) (bf b 6) 8 (y 0 3) p = -1 → bf b 8 (f_find (bf b 7) (bf b 5) (bf b 6) 8 (y 0 3) p).toNatClampNeg = nI q)
    {R : Int32 × Int32 × (Nat → Int32) × (Nat → Int32) × (Nat → Int32) × Int32} {G : g_V} (hR : f_dm (f_meets (ss q 0) (bf b 11 q)) (ss q 1) (sf q 3) (sf q 4) (sf q 2) (sf q 0) (sf q 1) (ss q 2) (y 0 3) p sq fl = R) (hG : g_svm (a 15) (a 16) (a 17) (a 18) (a 19) q (a 20 3) p sq fl (g_meets (a 13) (a 7) b q) = G) (E : Nat → Int32) {at2 : Int32} (hat : g_at2 fl (g_slot (a 8) (a 11) (a 12) b (a 20 3) p) (a 8) b = at2) :
    rA fN sN m n B (upd (upd (upd (upd (upd (upd u 2 (nI b)) 3 (nI q)) 4 G.1) 5 G.2.1) 6 (a 3 b)) 7 (g_bst G.1 (u 7) (a 14) q))
      (fup (fup (fup (fup (fup (fup (fup (fup (fup (fup (fup (fup (fup (fup a 0 E) 8 (g_put (a 8) at2 (g_ph fl))) 11 (g_put (a 11) at2 (a 20 3))) 12 (g_put (a 12) at2 p)) 9 (g_put (a 9) at2 (u 0))) 10 (g_put (a 10) at2 (nI q))) 3 (upd (a 3) b (a 3 b + 1 - (a 3 b + 1) / 65536 * 65536))) 21 (g_copy 5 0 (a 20) (a 21))) 15 G.2.2.1) 16 G.2.2.2.1) 17 G.2.2.2.2.1) 18 G.2.2.2.2.2.1) 19 G.2.2.2.2.2.2) 14 (g_ast G.1 (a 14) q))
      (upd (upd (upd x 1 (nI b)) 2 R.1) 3 (f_dt (f_meets (ss q 0) (bf b 11 q)) R.2.1))
      (fup y 1 (f_dw R.1 (ss q 3) (y 0 3) (f_fwd (y 1) (y 0) (bs b 3) (nI b) (nI q))))
      (fup bs b (upd (upd (bs b) 2 (f_ecnt fl (bs b 2) (bf b 7) (bf b 5) (bf b 6) (y 0 3) p)) 3 (f_next (bs b 3))))
      (fup bf b (fup (fup (fup (fup (fup (fup (bf b) 5 (f_put (bf b 5) (f_enew fl (bf b 7) (bf b 5) (bf b 6) (y 0 3) p) (y 0 3))) 6 (f_put (bf b 6) (f_enew fl (bf b 7) (bf b 5) (bf b 6) (y 0 3) p) p)) 7 (f_euse fl (bf b 7) (bf b 5) (bf b 6) (y 0 3) p)) 8 (f_eput fl (bf b 8) (bf b 7) (bf b 5) (bf b 6) (y 0 3) p (nI q))) 9 (f_eput fl (bf b 9) (bf b 7) (bf b 5) (bf b 6) (y 0 3) p (f_pat fl))) 10 (f_eput fl (bf b 10) (bf b 7) (bf b 5) (bf b 6) (y 0 3) p (x 4))))
      (fup ss q (upd (upd (upd (ss q) 1 R.2.1) 2 R.2.2.2.2.2) 3 (f_dst R.1 (ss q 3))))
      (fup sf q (fup (fup (fup (fup (fup (sf q) 0 (f_ds (f_meets (ss q 0) (bf b 11 q)) (sf q 0) (f_rnew fl (sf q 2) (sf q 0) (sf q 1) (y 0 3) p) (y 0 3))) 1 (f_ds (f_meets (ss q 0) (bf b 11 q)) (sf q 1) (f_rnew fl (sf q 2) (sf q 0) (sf q 1) (y 0 3) p) p)) 2 R.2.2.2.2.1) 3 R.2.2.1) 4 R.2.2.2.1)) := by
  obtain ⟨⟨s1, s2, s3, s4, s5, s6, s7⟩, hB, hV, hGo⟩ := h
  obtain ⟨c1, c2, ⟨ct, c31, c32, c33⟩, c4, c5, c6, c7⟩ := hB b hb
  obtain ⟨v1, ⟨vt, v21, v22, v23⟩, v3, v4⟩ := hV q hq
  have e3 : a 20 3 = y 0 3 := s2 3 (by omega)
  have em : g_meets (a 13) (a 7) b q = f_meets (ss q 0) (bf b 11 q) := meets_eq v1.2 (c7 q hq).1
  rw [e3] at hG hat ⊢
  rw [em] at hG
  obtain ⟨r1, r2, r3, r4, r5, r6, r7, r8, r9⟩ := srv_seg (by omega) v3 (y 0 3) p sq fl _ hfl hR hG
  obtain ⟨n1, n2, n3, n4, n5, n6⟩ := note_step (by omega) hq hn c6 (y 0 3) p (x 4) fl hfl hu hk
  rw [hat] at n1 n2 n3 n4 n5 n6
  rw [s3] at n1 n5
  rw [s3]
  refine ⟨⟨s1, s2, s3, rfl, r1, r2, Or.inr ⟨nI_pos (by omega), ?_⟩⟩, fun b' hb' => ?_, fun q' hq' => ?_, gol_put hq (by omega) hGo⟩
  · show ∀ t, t < 16 → f_dw R.1 (ss q 3) (y 0 3) (f_fwd (y 1) (y 0) (bs b 3) (nI b) (nI q)) t = g_wir (nI t) (nI b) (nI q) G.1 (a 3 b) (g_bst G.1 (u 7) (a 14) q) (g_copy 5 0 (a 20) (a 21))
    rw [← r1, c33, ← c32]
    refine wire_eq (fun i hi => ?_) (fun z => ?_)
    · rw [copy_at, if_pos (by omega)]; exact s2 i hi
    · unfold g_bst; rw [if_neg z, v22, v23]
  · by_cases w : b' = b
    · subst w
      rw [fup_s, fup_s]
      refine ⟨c1, c2, ⟨(ct + 1) % 65536, by omega, ?_, ?_⟩, c4, c5, n1, c7⟩
      · show upd (a 3) b' _ b' = _
        rw [pk_us, c32]; exact next_g c31
      · show f_next (bs b' 3) = _
        rw [c33]; exact next_f c31
    · rw [fup_n w, fup_n w]
      obtain ⟨d1, d2, ⟨dt, d31, d32, d33⟩, d4, d5, d6, d7⟩ := hB b' hb'
      exact ⟨d1, d2, ⟨dt, d31, (pk_un w : upd (a 3) b _ b' = a 3 b').trans d32, d33⟩, d4, d5, rE_out w d6 n2 n3 n4 n5 n6, d7⟩
  · by_cases w : q' = q
    · subst w
      rw [fup_s, fup_s]
      refine ⟨v1, ?_, r3, fun z => ?_⟩
      · show ∃ c, c < 65536 ∧ g_ast G.1 (a 14) q' q' = nI c ∧ f_dst R.1 (ss q' 3) = nI c
        unfold g_ast f_dst
        rw [r1]
        by_cases z : G.1 = 0
        · rw [if_pos z, if_pos z]; exact ⟨vt, v21, v22, v23⟩
        · rw [if_neg z, if_neg z, pk_us, v22, v23]
          exact ⟨(vt + 1) % 65536, by omega, next_g v21, next_f v21⟩
      · have z' : ss q' 0 = 0 := z
        have m0 : f_meets (ss q' 0) (bf b 11 q') = 0 := by unfold f_meets; rw [if_pos z']
        show ∀ e, e < 10 → R.2.2.2.2.1 e = 0
        rw [r9 m0]
        exact v4 z'
    · rw [fup_n w, fup_n w]
      obtain ⟨d1, ⟨dt, d21, d22, d23⟩, d3, d4⟩ := hV q' hq'
      refine ⟨d1, ⟨dt, d21, ?_, d23⟩, rQ_out w d3 r4 r5 r6 r7 r8, d4⟩
      show g_ast G.1 (a 14) q q' = _
      unfold g_ast
      split
      · exact d22
      · rw [pk_un w]; exact d22
/-- which server: both sides -/
theorem seg_srv {fN sN : Nat → Nat} {m n B : Nat} {u : Nat → Int32} {a : Nat → Nat → Int32} {x : Nat → Int32} {y : Nat → Nat → Int32} {bs : Nat → Nat → Int32} {bf : Nat → Nat → Nat → Int32} {ss : Nat → Nat → Int32} {sf : Nat → Nat → Nat → Int32} (hm : 0 < m ∧ m ≤ 101) (hn : 0 < n ∧ n ≤ 8) (hs : f_sur fN sN m n) (h : rA fN sN m n B u a x y bs bf ss sf) {b t : Nat} (hb : b < B) (hB4 : B ≤ 4) (ht : t < m) (s p : Int32) :
    (g_ups (g_sh (a 5) b) n = 0 ∧ f_find (bf b 7) (bf b 5) (bf b 6) 8 s p = -1 ∧ bf b 2 t = -1) ∨ (¬ g_ups (g_sh (a 5) b) n = 0 ∧ ∃ q, q < n ∧ ¬ bf b 0 q = 0 ∧ ((f_find (bf b 7) (bf b 5) (bf b 6) 8 s p = -1 ∧ g_slot (a 8) (a 11) (a 12) b s p = -1 ∧ bf b 2 t = nI q ∧ g_deal fN sN m n (g_sh (a 5) b) (a 0) t = nI q) ∨ (¬ f_find (bf b 7) (bf b 5) (bf b 6) 8 s p = -1 ∧ 0 ≤ g_slot (a 8) (a 11) (a 12) b s p ∧ bf b 8 (f_find (bf b 7) (bf b 5) (bf b 6) 8 s p).toNatClampNeg = nI q ∧ a 10 (g_slot (a 8) (a 11) (a 12) b s p).toNatClampNeg = nI q))) := by
  obtain ⟨hS, hB, hV, hG⟩ := h
  obtain ⟨c1, c2, c3, c4, c5, c6, c7⟩ := hB b hb
  obtain ⟨t1, t2, t3⟩ := tab_rel hm hn hs c4 c5 (a 0)
  obtain ⟨h1, h2, h3, h4, h5, h6, h7, h8⟩ := id c6
  have A := ff2 (c := 8 * b) 8 0 (esame c6 s p)
  by_cases z : g_ups (g_sh (a 5) b) n = 0
  · refine Or.inl ⟨z, ?_, (t2 z).1 t ht⟩
    rcases A with ⟨a1, a2, a3⟩ | ⟨j, -, a2, a3, a4, a5⟩
    · exact a1
    · exfalso
      have hj : j < 8 := by omega
      have u0 : ¬ bf b 7 j = 0 := by
        unfold f_same at a3
        simp only [Bool.and_eq_true, Bool.not_eq_true', beq_eq_false_iff_ne, beq_iff_eq] at a3
        exact a3.1.1
      exact (h7 j hj u0).2.2.2 ((t2 z).2 _ (zcl (by omega) (h5 j hj)).2)
  · refine Or.inr ⟨z, ?_⟩
    rcases A with ⟨a1, a2, a3⟩ | ⟨j, -, a2, a3, a4, a5⟩
    · obtain ⟨q, q1, q2, q3⟩ := t3 z t ht
      exact ⟨q, q1, q2, Or.inl ⟨a1, a2, q3, (t1 t ht).symm.trans q3⟩⟩
    · have hj : j < 8 := by omega
      have a4' : f_find (bf b 7) (bf b 5) (bf b 6) 8 s p = nI j := a4
      have a5' : g_slot (a 8) (a 11) (a 12) b s p = nI (8 * b + j) := a5
      have u0 : ¬ bf b 7 j = 0 := by
        unfold f_same at a3
        simp only [Bool.and_eq_true, Bool.not_eq_true', beq_eq_false_iff_ne, beq_iff_eq] at a3
        exact a3.1.1
      obtain ⟨k1, k2⟩ := zcl (by omega) (h5 j hj)
      refine ⟨(bf b 8 j).toNatClampNeg, k2, (h7 j hj u0).2.2.2, Or.inr ?_⟩
      rw [a4', a5', nI_clamp (by omega), nI_clamp (by omega), h4 j hj]
      exact ⟨zm1 (by omega), nI_pos' (by omega), k1, k1⟩
