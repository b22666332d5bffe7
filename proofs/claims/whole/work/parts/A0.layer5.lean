theorem zK0 {args : Array Value} {s : State} (hts : ∀ w ∈ zAll, w.before args s = true) : ∃ (D : va_G) (K : Nat → ClassId), va_K D zCl (zTy K []) s := by
  have h : ∀ c : Nat, ∃ (cC : ClassId) (iS : Nat → Nat), ∀ q, zCl[c]? = some q → u_Kn s q.1 q.2.1 q.2.2 cC iS := by
    intro c
    match c with
    | 0 => obtain ⟨a, b, h⟩ := u_known hts wu_PS (hts _ wn_PS); exact ⟨a, b, fun q hq => by cases hq; exact h⟩
    | 1 => obtain ⟨a, b, h⟩ := u_known hts wu_Bal (hts _ wn_Bal); exact ⟨a, b, fun q hq => by cases hq; exact h⟩
    | 2 => obtain ⟨a, b, h⟩ := u_known hts wu_Dig (hts _ wn_Dig); exact ⟨a, b, fun q hq => by cases hq; exact h⟩
    | 3 => obtain ⟨a, b, h⟩ := u_known hts wu_Ent (hts _ wn_Ent); exact ⟨a, b, fun q hq => by cases hq; exact h⟩
    | 4 => obtain ⟨a, b, h⟩ := u_known hts wu_Lst (hts _ wn_Lst); exact ⟨a, b, fun q hq => by cases hq; exact h⟩
    | 5 => obtain ⟨a, b, h⟩ := u_known hts wu_Srv (hts _ wn_Srv); exact ⟨a, b, fun q hq => by cases hq; exact h⟩
    | 6 => obtain ⟨a, b, h⟩ := u_known hts wu_Slo (hts _ wn_Slo); exact ⟨a, b, fun q hq => by cases hq; exact h⟩
    | 7 => obtain ⟨a, b, h⟩ := u_known hts wu_Stp (hts _ wn_Stp); exact ⟨a, b, fun q hq => by cases hq; exact h⟩
    | 8 => obtain ⟨a, b, h⟩ := u_known hts wu_Tab (hts _ wn_Tab); exact ⟨a, b, fun q hq => by cases hq; exact h⟩
    | 9 => obtain ⟨a, b, h⟩ := u_known hts wu_Wat (hts _ wn_Wat); exact ⟨a, b, fun q hq => by cases hq; exact h⟩
    | 10 => obtain ⟨a, b, h⟩ := u_known hts wu_Wir (hts _ wn_Wir); exact ⟨a, b, fun q hq => by cases hq; exact h⟩
    | 11 => obtain ⟨a, b, h⟩ := u_known hts wu_Mod (hts _ wn_Mod); exact ⟨a, b, fun q hq => by cases hq; exact h⟩
    | _ + 12 => obtain ⟨a, b, h⟩ := u_known hts wu_PS (hts _ wn_PS); exact ⟨a, b, fun q hq => nomatch (show (none : Option vw_C) = some q from hq)⟩
  obtain ⟨c0, k0, m0, a1, a2, a3⟩ := Cond.arrayClass_spec (hts _ wa_int)
  obtain ⟨c1, k1, m1, b1, b2, b3⟩ := Cond.arrayClass_spec (hts _ wa_boolean)
  obtain ⟨c2, k2, m2, d1, d2, d3⟩ := Cond.arrayClass_spec (hts _ wa_long)
  refine ⟨(fun c => Classical.choose (h c), fun c => Classical.choose (Classical.choose_spec (h c))), (fun i => match i with | 0 => c0 | 1 => c1 | _ => c2), fun c q hq => Classical.choose_spec (Classical.choose_spec (h c)) q hq, fun k q hk => ?_⟩
  match k with
  | 0 => cases hk; exact ⟨fun n z => ⟨fun k h => (by cases h), k0, a2, m0, a3⟩, a1⟩
  | 1 => cases hk; exact ⟨fun n z => ⟨fun k h => (by cases h), k1, b2, m1, b3⟩, b1⟩
  | 2 => cases hk; exact ⟨fun n z => ⟨fun k h => (by cases h), k2, d2, m2, d3⟩, d1⟩
  | _ + 3 => exact nomatch (show (none : Option (ClassId × FieldType)) = some q from hk)
theorem zset_app {C T : va_W} : ∀ (is : List Nat) (xs : va_W), (∀ i ∈ is, i < C.length) → zset (C ++ T) is xs = zset C is xs ++ T
  | [], xs, _ => by rw [zset_nil, zset_nil]
  | _ :: _, [], _ => rfl
  | i :: is, x :: xs, h => by
    show zset ((C ++ T).set i x) is xs = zset (C.set i x) is xs ++ T
    rw [List.set_append_left _ _ (h i List.mem_cons_self)]
    exact zset_app is xs (fun j hj => by rw [List.length_set]; exact h j (List.mem_cons_of_mem _ hj))
section ZV
variable {p : Program} {l : Launch} {e : Env} {R : Room} {s : State} {m : MethodId} {args : Array Value} {below : List Frame} {meth : Method} {c : Code} {cells slots : Nat} {Q : State → Prop}
variable {cc : ByteArray} {nL pc : Nat} {rest : List Value} {D : va_G} {K : Nat → ClassId} {M : List (ClassId × FieldType)} {A : Nat → Prop} {ws : va_W} {lv : List (Nat × Value)} {own : String}
theorem zx_sld (hF : zF p s m args c cc nL own D K M A) {b L : Nat} {xs : Nat → Int32} (hX : va_X b L xs s s.heap) (hb : b < s.heap.size) (hA : ¬ A b) {i : Nat} (hi : i < L) (hL : L < 2 ^ 31) (hdg : decode cc pc = .ok (.iaload, 1)) (k : zW p l e R s m args below meth c D A cells slots Q nL ws lv (pc + 1) (.int (xs i) :: rest)) : zW p l e R s m args below meth c D A cells slots Q nL ws lv pc (.int (nI i) :: .ref b :: rest) := fun _ _ _ h1 h2 h3 h4 => va_sld hF.1 hF.2.1 hX hb hA h4 (vp_in_nI hi hL) hdg (by rw [nI_clamp (Nat.lt_trans hi hL)]; exact k _ _ _ h1 h2 h3 h4)
theorem zx_slen (hF : zF p s m args c cc nL own D K M A) {b L : Nat} {xs : Nat → Int32} (hX : va_X b L xs s s.heap) (hb : b < s.heap.size) (hA : ¬ A b) (hdg : decode cc pc = .ok (.arraylength, 1)) (k : zW p l e R s m args below meth c D A cells slots Q nL ws lv (pc + 1) (.int (nI L) :: rest)) : zW p l e R s m args below meth c D A cells slots Q nL ws lv pc (.ref b :: rest) := fun _ _ _ h1 h2 h3 h4 => va_slen hF.1 hF.2.1 hX hb hA h4 hdg (k _ _ _ h1 h2 h3 h4)
theorem zx_tsOut (hF : zF p s m args c cc nL own D K M A) {dflt lo hi : Int} {offs : Array Int} {len : Nat} {x : Int32} {tgt : Nat} (hdg : decode cc pc = .ok (.tableswitch dflt lo hi offs, len)) (h : x.toInt < lo ∨ hi < x.toInt) (ht : (pc : Int) + dflt = (tgt : Int)) (k : zW p l e R s m args below meth c D A cells slots Q nL ws lv tgt rest) : zW p l e R s m args below meth c D A cells slots Q nL ws lv pc (.int x :: rest) := fun _ _ _ h1 h2 h3 h4 => lv_tableOut hF.1 hF.2.1 hdg h ht (k _ _ _ h1 h2 h3 h4)
theorem zx_tsIn (hF : zF p s m args c cc nL own D K M A) {dflt lo hi : Int} {offs : Array Int} {len : Nat} {x : Int32} {off : Int} {tgt : Nat} (hdg : decode cc pc = .ok (.tableswitch dflt lo hi offs, len)) (h1 : ¬ x.toInt < lo) (h2 : ¬ hi < x.toInt) (ho : offs[(x.toInt - lo).toNat]? = some off) (ht : (pc : Int) + off = (tgt : Int)) (k : zW p l e R s m args below meth c D A cells slots Q nL ws lv tgt rest) : zW p l e R s m args below meth c D A cells slots Q nL ws lv pc (.int x :: rest) := fun _ _ _ g1 g2 g3 g4 => lv_tableIn hF.1 hF.2.1 hdg h1 h2 ho ht (k _ _ _ g1 g2 g3 g4)
/-- a callee's world: some of the cells C, and the whole tail T -/
theorem zx_VTi (hF : zF p s m args c cc nL own D K M A) {y : MethodName} {index maxL n : Nat} {bytes : ByteArray} {ret : Option FieldType} {rm : Room} {b : Nat} {As st0 : List Value} {r : Int32} {C T c1 d1 T1 : va_W} (hM : ∀ sz : Nat, zM l y (zT y bytes maxL ret) rm 0 0 D K M (.ref b :: As) (c1 ++ T) sz (zQi D K M r (d1 ++ T1))) (is : List Nat) (hC : is.map (fun i => C[i]?) = c1.map some) (hn : is.Nodup) {as : List Nat} (hf1 : d1.map Prod.fst = as) (hf2 : c1.map Prod.fst = as) (hfT : T1.map Prod.fst = T.map Prod.fst) {C' : va_W} (hw : zset C is d1 = C') {Cn : String} (q0 ci : Nat) {fs : List Value} {cq : vw_C} (hq0 : c1[q0]? = some (b, .inr (ci, fs))) (hcq : zCl[ci]? = some cq) (hcC : cq.1 = Cn) (cw : CallW R s args own Cn index y bytes maxL ret (zT y bytes maxL ret) rm 0 0 n) (hlen : As.length = n) (hst : st0 = (As.reverse ++ .ref b :: rest)) (hroom : (rest.map fun v => v.category).sum ≤ 8) (hdg : decode cc pc = .ok (.invokevirtual index, 3)) (hf : cells ≤ R.cells ∧ slots ≤ R.slots) (k : zW p l e R s m args below meth c D A cells slots Q nL (C' ++ T1) lv (pc + 3) (.int r :: rest)) : zW p l e R s m args below meth c D A cells slots Q nL (C ++ T) lv pc st0 := by
  have hlt : ∀ i ∈ is, i < C.length := fun i hi => by
    have h1 : C[i]? ∈ c1.map some := by rw [← hC]; exact List.mem_map_of_mem hi
    obtain ⟨x, -, hx⟩ := List.mem_map.mp h1
    exact (List.getElem?_eq_some_iff.mp hx.symm).1
  have hlen1 : T1.length = T.length := by have := congrArg List.length hfT; rwa [List.length_map, List.length_map] at this
  have hle : is.length = d1.length := by
    have a1 := congrArg List.length hC
    have a2 := congrArg List.length (hf1.trans hf2.symm)
    rw [List.length_map, List.length_map] at a1 a2
    omega
  refine zx_Vi (wc := c1 ++ T) (w1 := d1 ++ T1) (ws' := C' ++ T1) hF hM (is ++ (List.range T.length).map (fun i => C.length + i)) ?_ ?_ (as := as ++ T.map Prod.fst) (by rw [List.map_append, hf1, hfT]) (by rw [List.map_append, hf2]) ?_ q0 ci (by rw [List.getElem?_append_left (List.getElem?_eq_some_iff.mp hq0).1]; exact hq0) hcq hcC cw hlen hst hroom hdg hf k
  · rw [List.map_append, List.map_append]
    congr 1
    · rw [← hC]
      exact List.map_congr_left (fun i hi => List.getElem?_append_left (hlt i hi))
    · rw [List.map_map]
      apply List.ext_getElem?
      intro k
      rw [List.getElem?_map, List.getElem?_map]
      by_cases hk : k < T.length
      · rw [List.getElem?_range hk, List.getElem?_eq_getElem hk]
        show some ((C ++ T)[C.length + k]?) = some (some T[k])
        rw [List.getElem?_append_right (Nat.le_add_right _ _), Nat.add_sub_cancel_left, List.getElem?_eq_getElem hk]
      · rw [List.getElem?_eq_none (by rw [List.length_range]; omega), List.getElem?_eq_none (by omega)]
        rfl
  · rw [List.nodup_append]
    refine ⟨hn, ?_, fun a ha b hb e => ?_⟩
    · exact List.Pairwise.map _ (fun a b h e => h (by omega)) List.nodup_range
    · obtain ⟨i, -, hi⟩ := List.mem_map.mp hb
      have := hlt a ha
      omega
  · have key : ∀ (is : List Nat) (xs : va_W) (W0 W1 : va_W), is.length = xs.length → ∀ (js : List Nat) (ys : va_W), zset W0 (is ++ js) (xs ++ ys) = zset (zset W0 is xs) js ys := by
      intro is
      induction is with
      | nil => intro xs W0 _ h js ys; cases xs with
        | nil => rw [zset_nil]; rfl
        | cons x xs => simp at h
      | cons i is ih => intro xs W0 W1 h js ys; cases xs with
        | nil => simp at h
        | cons x xs => exact ih xs (W0.set i x) W1 (by simpa using h) js ys
    rw [key is d1 (C ++ T) [] hle, zset_app is d1 hlt, hw]
    have hCl : C'.length = C.length := by
      rw [← hw]
      have hz : ∀ (is : List Nat) (xs W0 : va_W), (zset W0 is xs).length = W0.length := by
        intro is
        induction is with
        | nil => intro xs W0; rw [zset_nil]
        | cons i is ih => intro xs W0; cases xs with
          | nil => rfl
          | cons x xs => exact (ih xs (W0.set i x)).trans List.length_set
      exact hz is d1 C
    apply List.ext_getElem?
    intro k
    have hLs : ∀ i, i ∈ (List.range T.length).map (fun i => C.length + i) → C.length ≤ i ∧ i < C.length + T.length := by
      intro i hi
      obtain ⟨a, h1, h2⟩ := List.mem_map.mp hi
      have := List.mem_range.mp h1
      omega
    have hN : ((List.range T.length).map (fun i => C.length + i)).Nodup := List.Pairwise.map _ (fun a b h e => h (by omega)) List.nodup_range
    by_cases h1 : k < C.length
    · rw [zset_out _ _ _ k (fun h => by have := hLs k h; omega), List.getElem?_append_left (by omega), List.getElem?_append_left (by omega)]
    · by_cases h2 : k < C.length + T.length
      · have hj : ((List.range T.length).map (fun i => C.length + i))[k - C.length]? = some k := by
          rw [List.getElem?_map, List.getElem?_range (by omega)]
          show some (C.length + (k - C.length)) = some k
          congr 1
          omega
        have hx : T1[k - C.length]? = some (T1[k - C.length]'(by omega)) := List.getElem?_eq_getElem _
        rw [zset_in _ _ _ (k - C.length) k _ hN hj hx (by rw [List.length_append]; omega), List.getElem?_append_right (by omega), hCl]
        exact hx.symm
      · rw [zset_out _ _ _ k (fun h => by have := hLs k h; omega), List.getElem?_eq_none (by rw [List.length_append]; omega), List.getElem?_eq_none (by rw [List.length_append]; omega)]
end ZV
