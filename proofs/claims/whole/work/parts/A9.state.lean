/-! the states of both sides and what binds them -/
/-- model's scalars u: 0 now, 1 kept, 2 by, 3 to, 4 reply, 5 had, 6 outer stamp, 7 back stamp; arrays a: 0 dealt, 1 former, 2 alive, 3 stamp, 4 moves, 5 down, 6 counted, 7 cut, 8 phase, 9 used, 10 goal, 11 source, 12 ports, 13 off, 14 answer stamp, 15 open, 16 source, 17 ports, 18 awaited, 19 data, 20 head, 21 inner; class's scalars x: 0 header kept, 1 carrier, 2 reply, 3 taken, 4 time; arrays y: 0 kept, 1 wire -/
def rB (fN sN : Nat → Nat) (m n b : Nat) (a : Nat → Nat → Int32) (s : Nat → Int32) (f : Nat → Nat → Int32) : Prop :=
  (a 2 b = s 0 ∧ (s 0 = 0 ∨ s 0 = 1)) ∧ a 4 b = s 1 ∧ (∃ c, c < 65536 ∧ a 3 b = nI c ∧ s 3 = nI c) ∧ rW n b (f 0) (f 1) (a 5) (a 6) ∧ rT fN sN m n (f 0) (f 2) ∧ rE n b (f 5) (f 6) (f 7) (f 8) (f 9) (f 10) (f 0) (s 2) (a 11) (a 12) (a 10) (a 9) (a 8) ∧ ∀ k, k < n → a 7 (8 * b + k) = f 11 k ∧ (f 11 k = 0 ∨ f 11 k = 1)
def rV (q : Nat) (a : Nat → Nat → Int32) (s : Nat → Int32) (f : Nat → Nat → Int32) : Prop :=
  ((s 0 = 0 ∨ s 0 = 1) ∧ a 13 q = f_not (s 0)) ∧ (∃ c, c < 65536 ∧ a 14 q = nI c ∧ s 3 = nI c) ∧ rQ q (f 0) (f 1) (f 2) (f 3) (f 4) (s 2) (a 15) (a 16) (a 17) (a 18) (a 19) ∧ (s 0 = 0 → ∀ e, e < 10 → f 2 e = 0)
def rS (u : Nat → Int32) (a : Nat → Nat → Int32) (x : Nat → Int32) (y : Nat → Nat → Int32) : Prop :=
  x 0 = u 1 ∧ (∀ i, i < 5 → a 20 i = y 0 i) ∧ x 4 = u 0 ∧ x 1 = u 2 ∧ x 2 = u 4 ∧ x 3 = u 5 ∧ ((u 2 < 0 ∧ ∀ t, t < 16 → y 1 t = 0) ∨ (¬ u 2 < 0 ∧ ∀ t, t < 16 → y 1 t = g_wir (nI t) (u 2) (u 3) (u 4) (u 6) (u 7) (a 21)))
def rA (fN sN : Nat → Nat) (m n B : Nat) (u : Nat → Int32) (a : Nat → Nat → Int32) (x : Nat → Int32) (y : Nat → Nat → Int32) (bs : Nat → Nat → Int32) (bf : Nat → Nat → Nat → Int32) (ss : Nat → Nat → Int32) (sf : Nat → Nat → Nat → Int32) : Prop :=
  rS u a x y ∧ (∀ b, b < B → rB fN sN m n b a (bs b) (bf b)) ∧ (∀ q, q < n → rV q a (ss q) (sf q)) ∧ ∀ e, e < 32 → vp_in (a 10 e) n
theorem rE_out {n b b' : Nat} (hb : b' ≠ b) {src prt use sv pat lu up : Nat → Int32} {cnt : Int32} {esr epo gol usd pha esr' epo' gol' usd' pha' : Nat → Int32} (h : rE n b' src prt use sv pat lu up cnt esr epo gol usd pha) (h1 : oE b esr esr') (h2 : oE b epo epo') (h3 : oE b gol gol') (h4 : oE b usd usd') (h5 : oE b pha pha') : rE n b' src prt use sv pat lu up cnt esr' epo' gol' usd' pha' := by
  obtain ⟨a1, a2, a3, a4, a5, a6, a7, a8⟩ := h
  have o : ∀ e, e < 8 → (8 * b' + e < 8 * b ∨ 8 * b + 8 ≤ 8 * b' + e) := fun e he => by omega
  refine ⟨a1, fun e he => ?_, fun e he => ?_, fun e he => ?_, a5, fun e he z => ?_, fun e he z => ?_, a8⟩
  · rw [h1 _ (o e he)]; exact a2 e he
  · rw [h2 _ (o e he)]; exact a3 e he
  · rw [h3 _ (o e he)]; exact a4 e he
  · rw [h5 _ (o e he)]; exact a6 e he z
  · rw [h5 _ (o e he), h4 _ (o e he)]; exact a7 e he z
theorem rW_out {n b b' : Nat} (hn : n ≤ 8) (hb : b' ≠ b) {up con dwn ctd dwn' ctd' : Nat → Int32} (h : rW n b' up con dwn ctd) (h1 : oE b dwn dwn') (h2 : oE b ctd ctd') : rW n b' up con dwn' ctd' := by
  obtain ⟨a1, a2, a3⟩ := h
  refine ⟨a1, fun k hk => ?_, fun k hk => ?_⟩
  · rw [h1 _ (by omega)]; exact a2 k hk
  · rw [h2 _ (by omega)]; exact a3 k hk
theorem rQ_out {q q' : Nat} (hq : q' ≠ q) {src prt use nx dt : Nat → Int32} {cnt : Int32} {opn ssr spo awa dat opn' ssr' spo' awa' dat' : Nat → Int32} (h : rQ q' src prt use nx dt cnt opn ssr spo awa dat) (h1 : oQ q opn opn') (h2 : oQ q ssr ssr') (h3 : oQ q spo spo') (h4 : oQ q awa awa') (h5 : oQ q dat dat') : rQ q' src prt use nx dt cnt opn' ssr' spo' awa' dat' := by
  obtain ⟨a1, a2, a3, a4, a5, a6, a7⟩ := h
  have o : ∀ e, e < 10 → (10 * q' + e < 10 * q ∨ 10 * q + 10 ≤ 10 * q' + e) := fun e he => by omega
  refine ⟨a1, fun e he => ?_, fun e he => ?_, fun e he => ?_, fun e he => ?_, fun e he => ?_, a7⟩
  · rw [h1 _ (o e he)]; exact a2 e he
  · rw [h2 _ (o e he)]; exact a3 e he
  · rw [h3 _ (o e he)]; exact a4 e he
  · rw [h4 _ (o e he)]; exact a5 e he
  · rw [h5 _ (o e he)]; exact a6 e he
/-- header -/
theorem rA_header {fN sN : Nat → Nat} {m n B : Nat} {u : Nat → Int32} {a : Nat → Nat → Int32} {x : Nat → Int32} {y : Nat → Nat → Int32} {bs : Nat → Nat → Int32} {bf : Nat → Nat → Nat → Int32} {ss : Nat → Nat → Int32} {sf : Nat → Nat → Nat → Int32} (h : rA fN sN m n B u a x y bs bf ss sf) (w0 w1 w2 w3 w4 : Int32) :
    f_hd w0 w1 w2 w3 w4 = g_hd w0 w1 w2 w3 w4 ∧ rA fN sN m n B (upd u 1 (g_kept w0 w1 w2 w3 w4 (u 1))) (fup a 20 (g_head w0 w1 w2 w3 w4 (a 20))) (upd x 0 (f_hk w0 w1 w2 w3 w4 (x 0))) (fup y 0 (f_kp w0 w1 w2 w3 w4 (y 0))) bs bf ss sf := by
  have e := hd_eq w0 w1 w2 w3 w4
  obtain ⟨⟨s1, s2, s3, s4, s5, s6, s7⟩, hB, hV, hG⟩ := h
  refine ⟨e, ⟨?_, fun i hi => ?_, s3, s4, s5, s6, s7⟩, hB, hV, hG⟩
  · show f_hk w0 w1 w2 w3 w4 (x 0) = g_kept w0 w1 w2 w3 w4 (u 1)
    unfold f_hk g_kept
    rw [e, s1]
  · show g_head w0 w1 w2 w3 w4 (a 20) i = f_kp w0 w1 w2 w3 w4 (y 0) i
    unfold g_head f_kp
    rw [e]
    by_cases z : g_hd w0 w1 w2 w3 w4 = 0
    · rw [if_pos z, if_pos z]
      have hc : i = 0 ∨ i = 1 ∨ i = 2 ∨ i = 3 ∨ i = 4 := by omega
      rcases hc with y | y | y | y | y <;> subst y <;> rfl
    · rw [if_neg z, if_neg z]; exact s2 i hi
/-- live -/
theorem rA_live {fN sN : Nat → Nat} {m n B : Nat} {u : Nat → Int32} {a : Nat → Nat → Int32} {x : Nat → Int32} {y : Nat → Nat → Int32} {bs : Nat → Nat → Int32} {bf : Nat → Nat → Nat → Int32} {ss : Nat → Nat → Int32} {sf : Nat → Nat → Nat → Int32} (h : rA fN sN m n B u a x y bs bf ss sf) {b : Nat} (hb : b < B) {o : Int32} (ho : o = 0 ∨ o = 1) :
    f_seton (bs b 0) o = g_liv (a 2) b o ∧ rA fN sN m n B u (fup (fup a 2 (upd (a 2) b o)) 8 (g_lpha (a 2) (a 8) b o)) x y (fup bs b (upd (upd (bs b) 0 o) 2 (f_liveuse (bs b 0) o (bf b 7) (bs b 2)).2)) (fup bf b (fup (bf b) 7 (f_liveuse (bs b 0) o (bf b 7) (bs b 2)).1)) ss sf := by
  obtain ⟨hS, hB, hV, hG⟩ := h
  obtain ⟨c1, c2, c3, c4, c5, c6, c7⟩ := hB b hb
  obtain ⟨l1, l2, l3⟩ := live_step (o := o) c6 c1.1
  refine ⟨l1, hS, fun b' hb' => ?_, hV, hG⟩
  by_cases z : b' = b
  · subst z
    rw [fup_s, fup_s]
    exact ⟨⟨(pk_us : upd (a 2) b' o b' = o), ho⟩, c2, c3, c4, c5, l2, c7⟩
  · rw [fup_n z, fup_n z]
    obtain ⟨d1, d2, d3, d4, d5, d6, d7⟩ := hB b' hb'
    exact ⟨⟨(pk_un z : upd (a 2) b o b' = a 2 b').trans d1.1, d1.2⟩, d2, d3, d4, d5, rE_out z d6 oE.rf oE.rf oE.rf oE.rf l3, d7⟩
/-- power -/
theorem rA_power {fN sN : Nat → Nat} {m n B : Nat} {u : Nat → Int32} {a : Nat → Nat → Int32} {x : Nat → Int32} {y : Nat → Nat → Int32} {bs : Nat → Nat → Int32} {bf : Nat → Nat → Nat → Int32} {ss : Nat → Nat → Int32} {sf : Nat → Nat → Nat → Int32} (h : rA fN sN m n B u a x y bs bf ss sf) {q : Nat} (hq : q < n) {o : Int32} (ho : o = 0 ∨ o = 1) :
    f_seton (ss q 0) o = g_pow (a 13) q o ∧ rA fN sN m n B u (fup (fup a 13 (g_poff (a 13) q o)) 15 (g_popn (a 13) (a 15) q o)) x y bs bf (fup ss q (upd (upd (ss q) 0 o) 2 (f_onuse (ss q 0) o (sf q 2) (ss q 2)).2)) (fup sf q (fup (sf q) 2 (f_onuse (ss q 0) o (sf q 2) (ss q 2)).1)) := by
  obtain ⟨hS, hB, hV, hG⟩ := h
  obtain ⟨c1, c2, c3, c4⟩ := hV q hq
  obtain ⟨l1, l2, l3, l4, l5, l6⟩ := pow_step (o := o) c3 c1.1 ho c1.2 c4
  refine ⟨l1, hS, hB, fun q' hq' => ?_, hG⟩
  by_cases z : q' = q
  · subst z
    rw [fup_s, fup_s]
    exact ⟨⟨ho, l4⟩, c2, l2, l6⟩
  · rw [fup_n z, fup_n z]
    obtain ⟨d1, d2, d3, d4⟩ := hV q' hq'
    exact ⟨⟨d1.1, (l5 q' z).trans d1.2⟩, d2, rQ_out z d3 l3 oQ.rf oQ.rf oQ.rf oQ.rf, d4⟩
/-- path -/
theorem rA_path {fN sN : Nat → Nat} {m n B : Nat} {u : Nat → Int32} {a : Nat → Nat → Int32} {x : Nat → Int32} {y : Nat → Nat → Int32} {bs : Nat → Nat → Int32} {bf : Nat → Nat → Nat → Int32} {ss : Nat → Nat → Int32} {sf : Nat → Nat → Nat → Int32} (hn : n ≤ 8) (h : rA fN sN m n B u a x y bs bf ss sf) {b q : Nat} (hb : b < B) (hq : q < n) {o : Int32} (ho : o = 0 ∨ o = 1) :
    f_sw (bf b 11 q) o = g_pth (a 7) (8 * b + q) o ∧ rA fN sN m n B u (fup a 7 (g_pcut (a 7) (8 * b + q) o)) x y bs (fup bf b (fup (bf b) 11 (upd (bf b 11) q (f_not o)))) ss sf := by
  obtain ⟨hS, hB, hV, hG⟩ := h
  obtain ⟨c1, c2, c3, c4, c5, c6, c7⟩ := hB b hb
  have e1 := c7 q hq
  have e3 : g_pcut (a 7) (8 * b + q) o = upd (a 7) (8 * b + q) (f_not o) := by
    unfold g_pcut
    by_cases z : a 7 (8 * b + q) = o
    · rw [if_pos z]; rfl
    · rw [if_neg z]
      refine (upd_id ?_).symm
      rw [e1.1] at z ⊢
      rcases e1.2 with w | w <;> rcases ho with v | v <;> rw [w, v] at z <;> rw [w, v]
      · exact absurd rfl z
      · rfl
      · rfl
      · exact absurd rfl z
  rw [e3]
  refine ⟨?_, hS, fun b' hb' => ?_, hV, hG⟩
  · unfold f_sw g_pth; rw [e1.1]
  · by_cases z : b' = b
    · subst z
      rw [fup_s]
      refine ⟨c1, c2, c3, c4, c5, c6, fun k hk => ?_⟩
      show upd (a 7) (8 * b' + q) (f_not o) (8 * b' + k) = upd (bf b' 11) q (f_not o) k ∧ _
      by_cases y : k = q
      · subst y
        refine ⟨by rw [pk_us, pk_us], ?_⟩
        show upd (bf b' 11) k (f_not o) k = 0 ∨ upd (bf b' 11) k (f_not o) k = 1
        rw [pk_us]
        unfold f_not
        split
        · exact Or.inr rfl
        · exact Or.inl rfl
      · refine ⟨by rw [pk_un y, pk_un (by omega)]; exact (c7 k hk).1, ?_⟩
        show upd (bf b' 11) q (f_not o) k = 0 ∨ upd (bf b' 11) q (f_not o) k = 1
        rw [pk_un y]
        exact (c7 k hk).2
    · rw [fup_n z]
      obtain ⟨d1, d2, d3, d4, d5, d6, d7⟩ := hB b' hb'
      refine ⟨d1, d2, d3, d4, d5, d6, fun k hk => ⟨?_, (d7 k hk).2⟩⟩
      show upd (a 7) (8 * b + q) (f_not o) (8 * b' + k) = _
      rw [pk_un (by omega)]
      exact (d7 k hk).1
/-- tick -/
theorem rA_tick {fN sN : Nat → Nat} {m n B : Nat} {u : Nat → Int32} {a : Nat → Nat → Int32} {x : Nat → Int32} {y : Nat → Nat → Int32} {bs : Nat → Nat → Int32} {bf : Nat → Nat → Nat → Int32} {ss : Nat → Nat → Int32} {sf : Nat → Nat → Nat → Int32} (hB4 : B ≤ 4) (h : rA fN sN m n B u a x y bs bf ss sf) (t : Int32) :
    rA fN sN m n B (upd u 0 (u 0 + t)) (fup a 8 (g_tick (a 9) (u 0 + t) 32 0 (a 8))) (upd x 4 (x 4 + t)) y (tkB (x 4 + t) bs bf B) (tkF (x 4 + t) bs bf B) ss sf := by
  obtain ⟨⟨s1, s2, s3, s4, s5, s6, s7⟩, hB, hV, hG⟩ := h
  refine ⟨⟨s1, s2, ?_, s4, s5, s6, s7⟩, fun b hb => ?_, hV, hG⟩
  · show x 4 + t = u 0 + t
    rw [s3]
  · obtain ⟨c1, c2, c3, c4, c5, c6, c7⟩ := hB b hb
    rw [show tkB (x 4 + t) bs bf B b = upd (bs b) 2 (tkR (x 4 + t) (bs b) (bf b)).2 from if_pos hb, show tkF (x 4 + t) bs bf B b = fup (bf b) 7 (tkR (x 4 + t) (bs b) (bf b)).1 from if_pos hb, s3]
    exact ⟨c1, c2, c3, c4, c5, rE_tick (by omega) c6 (u 0 + t), c7⟩
/-- a probe with no change -/
theorem rA_probe0 {fN sN : Nat → Nat} {m n B : Nat} {u : Nat → Int32} {a : Nat → Nat → Int32} {x : Nat → Int32} {y : Nat → Nat → Int32} {bs : Nat → Nat → Int32} {bf : Nat → Nat → Nat → Int32} {ss : Nat → Nat → Int32} {sf : Nat → Nat → Nat → Int32} (hn : n ≤ 8) (h : rA fN sN m n B u a x y bs bf ss sf) {b : Nat} (hb : b < B) (D F : Nat → Int32) :
    (f_prs (fun k => ss k 0) (bf b 11) n 0 (bf b 0, bf b 1, 0)).2.2 = (g_asks (a 13) (a 7) b n 0 (a 6, a 5, 0)).2.2 ∧ z01 (f_prs (fun k => ss k 0) (bf b 11) n 0 (bf b 0, bf b 1, 0)).1 ∧ ((f_prs (fun k => ss k 0) (bf b 11) n 0 (bf b 0, bf b 1, 0)).2.2 = 0 → rA fN sN m n B u (fup (fup (fup (fup a 5 (g_asks (a 13) (a 7) b n 0 (a 6, a 5, 0)).2.1) 6 (g_asks (a 13) (a 7) b n 0 (a 6, a 5, 0)).1) 0 D) 1 F) x y bs (fup bf b (fup (fup (bf b) 0 (f_prs (fun k => ss k 0) (bf b 11) n 0 (bf b 0, bf b 1, 0)).1) 1 (f_prs (fun k => ss k 0) (bf b 11) n 0 (bf b 0, bf b 1, 0)).2.1)) ss sf) := by
  obtain ⟨hS, hB, hV, hG⟩ := h
  obtain ⟨c1, c2, c3, c4, c5, c6, c7⟩ := hB b hb
  obtain ⟨p1, p2, p3, p4⟩ := prs_asks (onf := fun k => ss k 0) (cut := bf b 11) (off := a 13) (cutm := a 7) hn (fun k hk => (hV k hk).1.2) (fun k hk => (c7 k hk).1) n 0 (bf b 0, bf b 1, 0) (a 6, a 5, 0) (by omega) c4 rfl
  refine ⟨p2, prs_z01 _ _ n 0 _ c4.1, fun z => ⟨hS, fun b' hb' => ?_, hV, hG⟩⟩
  have e0 := prs_0 (fun k => ss k 0) (bf b 11) n 0 (bf b 0, bf b 1, 0) z
  by_cases w : b' = b
  · subst w
    rw [fup_s]
    rw [e0] at p1 ⊢
    exact ⟨c1, c2, c3, p1, c5, c6, c7⟩
  · rw [fup_n w]
    obtain ⟨d1, d2, d3, d4, d5, d6, d7⟩ := hB b' hb'
    exact ⟨d1, d2, d3, rW_out hn w d4 p3 p4, d5, d6, d7⟩
/-- a probe with changes -/
theorem rA_probe {fN sN : Nat → Nat} {m n B : Nat} {u : Nat → Int32} {a : Nat → Nat → Int32} {x : Nat → Int32} {y : Nat → Nat → Int32} {bs : Nat → Nat → Int32} {bf : Nat → Nat → Nat → Int32} {ss : Nat → Nat → Int32} {sf : Nat → Nat → Nat → Int32} (hm : 0 < m ∧ m ≤ 101) (hn : 0 < n ∧ n ≤ 8) (hs : f_sur fN sN m n) (h : rA fN sN m n B u a x y bs bf ss sf) {b : Nat} (hb : b < B) {P : f_P} {G : g_A} (hP : f_prs (fun k => ss k 0) (bf b 11) n 0 (bf b 0, bf b 1, 0) = P) (hGA : g_asks (a 13) (a 7) b n 0 (a 6, a 5, 0) = G) :
    rA fN sN m n B u (fup (fup (fup (fup (fup (fup a 5 G.2.1) 6 G.1) 0 (g_deal fN sN m n (g_sh G.2.1 b) (g_deal fN sN m n (g_sh (a 5) b) (a 0)))) 1 (g_copy 101 0 (g_deal fN sN m n (g_sh (a 5) b) (a 0)) (a 1))) 4 (upd (a 4) b (nI (f_count (fun p => !((g_deal fN sN m n (g_sh G.2.1 b) (g_deal fN sN m n (g_sh (a 5) b) (a 0))) p == (g_copy 101 0 (g_deal fN sN m n (g_sh (a 5) b) (a 0)) (a 1)) p)) m 0 0)))) 8 (g_purge G.2.1 (a 10) b 8 (8 * b) (a 8))) x y
      (fup bs b (upd (upd (bs b) 1 (nI (f_count (fun p => !((f_tab fN sN m n P.1 (bf b 2) (bf b 4)).1 p == (va_cpy (bf b 2) (bf b 3) 0 0 m) p)) m 0 0))) 2 (f_relP (f_dn P.1 (bf b 8)) 8 0 (bf b 7) (bs b 2)).2))
      (fup bf b (fup (fup (fup (fup (fup (fup (bf b) 0 P.1) 1 P.2.1) 2 (f_tab fN sN m n P.1 (bf b 2) (bf b 4)).1) 3 (va_cpy (bf b 2) (bf b 3) 0 0 m)) 4 (f_tab fN sN m n P.1 (bf b 2) (bf b 4)).2.1) 7 (f_relP (f_dn P.1 (bf b 8)) 8 0 (bf b 7) (bs b 2)).1)) ss sf := by
  obtain ⟨hS, hB, hV, hG⟩ := h
  obtain ⟨c1, c2, c3, c4, c5, c6, c7⟩ := hB b hb
  obtain ⟨p1, p2, p3, p4⟩ := prs_asks (onf := fun k => ss k 0) (cut := bf b 11) (off := a 13) (cutm := a 7) hn.2 (fun k hk => (hV k hk).1.2) (fun k hk => (c7 k hk).1) n 0 (bf b 0, bf b 1, 0) (a 6, a 5, 0) (by omega) c4 rfl
  rw [hP, hGA] at p1 p2
  rw [hGA] at p3 p4
  have t1 := (tab_rel hm hn hs c4 c5 (a 0)).1
  have t2 := (tab_rel hm hn hs p1 ⟨bf b 2, bf b 4, rfl⟩ (g_deal fN sN m n (g_sh (a 5) b) (a 0))).1
  refine ⟨hS, fun b' hb' => ?_, hV, hG⟩
  by_cases w : b' = b
  · subst w
    rw [fup_s, fup_s]
    refine ⟨c1, ?_, c3, p1, ⟨bf b' 2, bf b' 4, rfl⟩, rE_purge hn.2 c6 (fun k hk => ?_), c7⟩
    · show upd (a 4) b' _ b' = nI _
      rw [pk_us, mov_eq hm.2 t1 t2]
    · rw [p1.2.1 k hk]; exact not_0
  · rw [fup_n w, fup_n w]
    obtain ⟨d1, d2, d3, d4, d5, d6, d7⟩ := hB b' hb'
    exact ⟨d1, (pk_un w : upd (a 4) b _ b' = a 4 b').trans d2, d3, rW_out hn.2 w d4 p3 p4, d5, rE_out w d6 oE.rf oE.rf oE.rf oE.rf oE_purge, d7⟩
