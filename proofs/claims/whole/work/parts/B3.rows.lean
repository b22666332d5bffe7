/-! rows of the law's cases -/
def zbo (x : Int32) : Int32 := if x = 0 then 0 else 1
theorem zbo01 (x : Int32) : zbo x = 0 ∨ zbo x = 1 := by
  unfold zbo
  split
  · exact Or.inl rfl
  · exact Or.inr rfl
theorem bLs_bk {K : Nat → ClassId} {l0 m n B b : Nat} {aB : Nat → Nat → Nat} {bs : Nat → Nat → Int32} {bf : Nat → Nat → Nat → Int32} {S : Nat → Int32} {F : Nat → Nat → Int32} (hb : b < B) : (bLs K l0 m n aB (fup bs b S) (fup bf b F) (List.range B)).Perm (balC K l0 m n (aB b) S F ++ bLs K l0 m n aB bs bf ((List.range B).erase b)) := by
  have h := bLs_foc (K := K) (l0 := l0) (m := m) (n := n) (aB := aB) (bs := bs) (bf := bf) (bs' := fup bs b S) (bf' := fup bf b F) hb (fun i hi => fup_n hi) (fun i hi => fup_n hi)
  rw [fup_s, fup_s] at h
  exact h
theorem sLs_bk {K : Nat → ClassId} {n q : Nat} {aS : Nat → Nat → Nat} {ss : Nat → Nat → Int32} {sf : Nat → Nat → Nat → Int32} {S : Nat → Int32} {F : Nat → Nat → Int32} (hq : q < n) : (sLs K aS (fup ss q S) (fup sf q F) (List.range n)).Perm (srvC K (aS q) S F ++ sLs K aS ss sf ((List.range n).erase q)) := by
  have h := sLs_foc (K := K) (aS := aS) (ss := ss) (sf := sf) (ss' := fup ss q S) (sf' := fup sf q F) hq (fun i hi => fup_n hi) (fun i hi => fup_n hi)
  rw [fup_s, fup_s] at h
  exact h
theorem bLs_go {K : Nat → ClassId} {l0 m n B b : Nat} {aB : Nat → Nat → Nat} {bs : Nat → Nat → Int32} {bf : Nat → Nat → Nat → Int32} (hb : b < B) : (bLs K l0 m n aB bs bf (List.range B)).Perm (balC K l0 m n (aB b) (bs b) (bf b) ++ bLs K l0 m n aB bs bf ((List.range B).erase b)) := bLs_foc hb (fun _ _ => rfl) (fun _ _ => rfl)
theorem sLs_go {K : Nat → ClassId} {n q : Nat} {aS : Nat → Nat → Nat} {ss : Nat → Nat → Int32} {sf : Nat → Nat → Nat → Int32} (hq : q < n) : (sLs K aS ss sf (List.range n)).Perm (srvC K (aS q) (ss q) (sf q) ++ sLs K aS ss sf ((List.range n).erase q)) := sLs_foc hq (fun _ _ => rfl) (fun _ _ => rfl)
section ZC
variable {p : Program} {l : Launch} {e : Env} {R : Room} {s : State} {m : MethodId} {args : Array Value} {below : List Frame} {meth : Method} {c : Code} {cells slots : Nat} {Q : State → Prop}
variable {cc : ByteArray} {nL pc : Nat} {rest : List Value} {D : va_G} {K : Nat → ClassId} {M : List (ClassId × FieldType)} {A : Nat → Prop} {ws : va_W} {lv : List (Nat × Value)} {own : String}
/-- an int of the script goes on the stack -/
theorem zx_arg {lv1 lv2 : Nat × Value} (hF : zF p s m args c cc nL own D K M A) {b L : Nat} {xs : Nat → Int32} (hX : va_X b L xs s s.heap) (hb : b < s.heap.size) (hA : ¬ A b) {i : Nat} {jv : Int} (j : Nat) (hij : i + j < L) (hL : L ≤ 3076) (hl : lv = [(3, .int (nI i)), lv1, lv2, (0, .ref b)]) (hj : Int32.ofInt jv = nI j) (d0 : decode cc pc = .ok (.aload_n 0, 1)) (d1 : decode cc (pc + 1) = .ok (.iload_n 3, 1)) (d2 : decode cc (pc + 2) = .ok (.iconst jv, 1)) (d3 : decode cc (pc + 3) = .ok (.iadd, 1)) (d4 : decode cc (pc + 4) = .ok (.iaload, 1))
    (k : zW p l e R s m args below meth c D A cells slots Q nL ws lv (pc + 5) (.int (xs (i + j)) :: rest)) : zW p l e R s m args below meth c D A cells slots Q nL ws lv pc rest := by
  subst hl
  refine zx_aload_n (x := b) hF d0 rfl 3 rfl ?_
  refine zx_iload_n (x := nI i) hF d1 rfl 0 rfl ?_
  refine zx_iconst hF d2 hj ?_
  refine zx_iadd hF d3 ?_
  refine zx_topi (nI (i + j)) (nI_add i j) ?_
  exact zx_sld hF hX hb hA hij (by omega) d4 k
/-- x != 0 -/
theorem zx_bool (hF : zF p s m args c cc nL own D K M A) {o1 o2 : Int} {x : Int32} (t1 t2 : Nat) (h1 : (pc : Int) + o1 = (t1 : Int)) (h2 : ((pc + 3 + 1 : Nat) : Int) + o2 = (t2 : Int)) (h3 : t2 = t1 + 1) (d0 : decode cc pc = .ok (.ifCond .eq o1, 3)) (d1 : decode cc (pc + 3) = .ok (.iconst 1, 1)) (d2 : decode cc (pc + 3 + 1) = .ok (.goto o2, 3)) (d3 : decode cc t1 = .ok (.iconst 0, 1))
    (k : zW p l e R s m args below meth c D A cells slots Q nL ws lv t2 (.int (zbo x) :: rest)) : zW p l e R s m args below meth c D A cells slots Q nL ws lv pc (.int x :: rest) := by
  refine zx_if_eq hF d0 h1 (fun h => ?_) (fun h => ?_)
  · refine zx_iconst (v := 0) hF d3 rfl ?_
    have e : zbo x = 0 := if_pos h
    rw [e, h3] at k
    exact k
  · refine zx_iconst (v := 1) hF d1 rfl ?_
    refine zx_goto hF d2 h2 ?_
    have e : zbo x = 1 := if_neg h
    rw [e] at k
    exact k
end ZC
theorem fup_id {α : Type} {f : Nat → α} {k : Nat} : fup f k (f k) = f := funext fun j => by
  by_cases z : j = k
  · subst z; rw [fup_s]
  · rw [fup_n z]
theorem in_of {b : Int32} {N : Nat} (h : ¬ (b < 0 ∨ nI N ≤ b)) (hN : N < 2 ^ 31) : ∃ k, k < N ∧ b = nI k := by
  rcases is_or b hN with g | g
  · exfalso
    unfold g_is at g
    rw [if_neg (fun z => h (Or.inl z)), if_neg (fun z => h (Or.inr z))] at g
    exact absurd g (by decide)
  · exact g
theorem tk_fst {K : Nat → ClassId} {l0 m n : Nat} {aB : Nat → Nat → Nat} {bs bs' : Nat → Nat → Int32} {bf bf' : Nat → Nat → Nat → Int32} {L : List Nat} {X : va_W} : (bLs K l0 m n aB bs bf L ++ X).map Prod.fst = (bLs K l0 m n aB bs' bf' L ++ X).map Prod.fst := by
  rw [List.map_append, List.map_append, bLs_fst (bs' := bs') (bf' := bf')]
theorem mul100 : ∀ d, d ≤ 10 → (100 : Int32) * nI d = nI (100 * d) := by
  intro d hd
  have hc : d = 0 ∨ d = 1 ∨ d = 2 ∨ d = 3 ∨ d = 4 ∨ d = 5 ∨ d = 6 ∨ d = 7 ∨ d = 8 ∨ d = 9 ∨ d = 10 := by omega
  rcases hc with z | z | z | z | z | z | z | z | z | z | z <;> subst z <;> decide
theorem load_eq {n b q : Nat} {src prt use sv pat lu up : Nat → Int32} {cnt : Int32} {esr epo gol usd pha : Nat → Int32} (h : rE n b src prt use sv pat lu up cnt esr epo gol usd pha) {src2 prt2 use2 nx dt : Nat → Int32} {cnt2 : Int32} {opn ssr spo awa dat : Nat → Int32} (h2 : rQ q src2 prt2 use2 nx dt cnt2 opn ssr spo awa dat) : cnt + 100 * cnt2 = nI (g_l2 opn q 10 0 (g_l1 pha b)) := by
  obtain ⟨a1, a2⟩ := lc1_eq h
  obtain ⟨d, d1, d2, d3⟩ := lc2_eq h2 (g_l1 pha b)
  rw [d3, a1, d2, ← nI_add, mul100 d d1]
theorem load_q_eq {n b : Nat} {src prt use sv pat lu up : Nat → Int32} {cnt : Int32} {esr epo gol usd pha : Nat → Int32} (h : rE n b src prt use sv pat lu up cnt esr epo gol usd pha) : cnt + 100 * 0 = nI (g_l1 pha b) := by
  rw [(lc1_eq h).1, show (100 : Int32) * 0 = nI 0 by decide, nI_add]
  rfl
theorem load_b_eq {q : Nat} {src2 prt2 use2 nx dt : Nat → Int32} {cnt2 : Int32} {opn ssr spo awa dat : Nat → Int32} (h2 : rQ q src2 prt2 use2 nx dt cnt2 opn ssr spo awa dat) : 0 + 100 * cnt2 = nI (g_l2 opn q 10 0 0) := by
  obtain ⟨d, d1, d2, d3⟩ := lc2_eq h2 0
  rw [d3, d2, ← nI_add, mul100 d d1]
  rfl
theorem held_eq {n b q : Nat} {up con dwn ctd : Nat → Int32} (h : rW n b up con dwn ctd) (hq : q < n) : (if up q = 0 then 10 + con q else con q) = (if dwn (8 * b + q) = 0 then ctd (8 * b + q) else 10 + ctd (8 * b + q)) := by
  rw [h.2.1 q hq, h.2.2 q hq]
  by_cases z : up q = 0
  · rw [if_pos z, if_neg (not_0.mp z)]
  · rw [if_neg z, if_pos (by unfold f_not; rw [if_neg z])]
theorem ent_eq {n b : Nat} (hb : b < 4) {src prt use sv pat lu up : Nat → Int32} {cnt : Int32} {esr epo gol usd pha : Nat → Int32} (h : rE n b src prt use sv pat lu up cnt esr epo gol usd pha) (s p : Int32) : (if f_find use src prt 8 s p = -1 then -1 else sv (f_find use src prt 8 s p).toNatClampNeg) = (if g_slot pha esr epo b s p < 0 then -1 else gol (g_slot pha esr epo b s p).toNatClampNeg) := by
  rcases ff2 (c := 8 * b) 8 0 (esame h s p) with ⟨a1, a2, a3⟩ | ⟨j, -, a2, a3, a4, a5⟩
  · have a1' : f_find use src prt 8 s p = -1 := a1
    have a2' : g_slot pha esr epo b s p = -1 := a2
    rw [a1', a2', if_pos rfl, if_pos (by decide)]
  · have hj : j < 8 := by omega
    have a4' : f_find use src prt 8 s p = nI j := a4
    have a5' : g_slot pha esr epo b s p = nI (8 * b + j) := a5
    rw [a4', a5', if_neg (zm1 (by omega)), if_neg (nI_pos (by omega)), nI_clamp (by omega), nI_clamp (by omega)]
    exact (h.2.2.2.1 j hj).symm
theorem wire_z {w : Nat → Int32} {t : Int32} (h : ∀ t, t < 16 → w t = 0) : (if t < 0 then 0 else if 16 ≤ t then 0 else w t.toNatClampNeg) = 0 := by
  by_cases h1 : t < 0
  · rw [if_pos h1]
  · by_cases h2 : 16 ≤ t
    · rw [if_neg h1, if_pos h2]
    · rw [if_neg h1, if_neg h2]
      obtain ⟨k, hk, e⟩ := in_of (b := t) (N := 16) (fun z => z.elim h1 h2) (by omega)
      rw [e, nI_clamp (by omega)]
      exact h k hk
theorem wire_o {w : Nat → Int32} {t : Int32} (h : t < 0 ∨ ¬ t ≤ 15) : (if t < 0 then 0 else if 16 ≤ t then 0 else w t.toNatClampNeg) = 0 := by
  by_cases h1 : t < 0
  · rw [if_pos h1]
  · have h2 : 16 ≤ t := by
      have h3 := Int32.lt_iff_toInt_lt.mp (Int32.not_le.mp (h.resolve_left h1))
      rw [show (15 : Int32).toInt = 15 by decide] at h3
      rw [Int32.le_iff_toInt_le, show (16 : Int32).toInt = 16 by decide]
      omega
    rw [if_neg h1, if_pos h2]
theorem wire_i {w inr : Nat → Int32} {t b0 t0 rp os bk : Int32} (ht : ¬ t < 0 ∧ t ≤ 15) (h : ∀ t, t < 16 → w t = g_wir (nI t) b0 t0 rp os bk inr) : (if t < 0 then 0 else if 16 ≤ t then 0 else w t.toNatClampNeg) = g_wir t b0 t0 rp os bk inr := by
  have h2 : ¬ 16 ≤ t := fun z => by
    have h3 := Int32.le_iff_toInt_le.mp ht.2
    have h4 := Int32.le_iff_toInt_le.mp z
    rw [show (15 : Int32).toInt = 15 by decide] at h3
    rw [show (16 : Int32).toInt = 16 by decide] at h4
    omega
  rw [if_neg ht.1, if_neg h2]
  obtain ⟨k, hk, e⟩ := in_of (b := t) (N := 16) (fun z => z.elim ht.1 h2) (by omega)
  rw [e, nI_clamp (by omega)]
  exact h k hk
