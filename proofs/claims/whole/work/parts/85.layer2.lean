section ZY
abbrev zM2 (KB KS : ClassId) : List (ClassId × FieldType) := [(KB, .object "PacketSpreader$Balancer"), (KS, .object "PacketSpreader$Server")]
abbrev cR (KB : ClassId) (a n : Nat) (f : Nat → Option Nat) : Nat × va_E := (a, .inl (KB, n, .inr (.inr (.inr (.inr f)))))
theorem zP_perm {D : va_G} {cl : List vw_C} {ws ws' : va_W} {H : Heap} (h : ws.Perm ws') (hP : va_P D cl ws H) : va_P D cl ws' H := fun k q hk => by
  obtain ⟨i, hi⟩ := List.getElem?_of_mem (h.mem_iff.mpr (List.mem_of_getElem? hk))
  exact hP i q hi
theorem zD_nodup {A : Nat → Prop} {ws : va_W} (h : va_D A ws) : (ws.map Prod.fst).Nodup := by
  unfold List.Nodup
  rw [List.pairwise_iff_getElem]
  intro i j hi hj hij e
  rw [List.length_map] at hi hj
  rw [List.getElem_map, List.getElem_map] at e
  have := h.1 i j ws[i] ws[j] (List.getElem?_eq_getElem hi) (List.getElem?_eq_getElem hj) e
  omega
theorem zD_of {A : Nat → Prop} {ws : va_W} (h : (ws.map Prod.fst).Nodup) (hA : ∀ q ∈ ws, A q.1) : va_D A ws := by
  refine ⟨fun i j p q hi hj e => ?_, fun k q hk => hA q (List.mem_of_getElem? hk)⟩
  have hl : i < (ws.map Prod.fst).length := by rw [List.length_map]; exact (List.getElem?_eq_some_iff.mp hi).1
  refine (List.getElem?_inj hl h).mp ?_
  rw [List.getElem?_map, List.getElem?_map, hi, hj]
  show some p.1 = some q.1
  rw [e]
theorem zD_perm {A : Nat → Prop} {ws ws' : va_W} (h : ws.Perm ws') (hD : va_D A ws) : va_D A ws' := by
  refine zD_of ((h.map Prod.fst).nodup_iff.mp (zD_nodup hD)) (fun q hq => ?_)
  obtain ⟨i, hi⟩ := List.getElem?_of_mem (h.mem_iff.mpr hq)
  exact hD.2 i q hi
variable {p : Program} {l : Launch} {e : Env} {R : Room} {s : State} {m : MethodId} {args : Array Value} {below : List Frame} {meth : Method} {c : Code} {cells slots : Nat} {Q : State → Prop}
variable {cc : ByteArray} {nL pc : Nat} {rest : List Value} {D : va_G} {K : Nat → ClassId} {M : List (ClassId × FieldType)} {A : Nat → Prop} {ws : va_W} {lv : List (Nat × Value)} {own : String}
theorem zx_perm {ws' : va_W} {st : List Value} (h : ws.Perm ws') (k : zW p l e R s m args below meth c D A cells slots Q nL ws' lv pc st) : zW p l e R s m args below meth c D A cells slots Q nL ws lv pc st := fun _ _ _ h1 h2 h3 h4 => k _ _ _ h1 (zP_perm h h2) (zD_perm h h3) h4
theorem zx_mmax (hF : zF p s m args c cc nL own D K M A) {index : Nat} (hl : Cond.methodLink own index ⟨"java/lang/Math", "max", "(II)I"⟩ ∈ zAll) {x y v : Int32} (hv : (if x < y then y else x) = v) (hframes : 1 ≤ R.frames) (hlocals : (rest.map fun v => v.category).sum + 13 ≤ R.locals) (hf : cells ≤ R.cells ∧ slots ≤ R.slots) (hdg : decode cc pc = .ok (.invokestatic index, 3)) (k : zW p l e R s m args below meth c D A cells slots Q nL ws lv (pc + 3) (.int v :: rest)) : zW p l e R s m args below meth c D A cells slots Q nL ws lv pc (.int y :: .int x :: rest) := fun _ _ _ h1 h2 h3 h4 => va_mmax hF.1 hF.2.1 (by rw [hF.2.2.1]; exact h1.1.symm) hF.2.2.2.1 (zw hF hl) (zw hF wx_max_static) (zw hF wz_Mth) (zw hF wx_max_code) hframes hlocals hf.1 hf.2 hdg (by rw [hv]; exact k _ _ _ h1 h2 h3 h4)
theorem zx_mmin (hF : zF p s m args c cc nL own D K M A) {index : Nat} (hl : Cond.methodLink own index ⟨"java/lang/Math", "min", "(II)I"⟩ ∈ zAll) {x y v : Int32} (hv : (if y < x then y else x) = v) (hframes : 1 ≤ R.frames) (hlocals : (rest.map fun v => v.category).sum + 13 ≤ R.locals) (hf : cells ≤ R.cells ∧ slots ≤ R.slots) (hdg : decode cc pc = .ok (.invokestatic index, 3)) (k : zW p l e R s m args below meth c D A cells slots Q nL ws lv (pc + 3) (.int v :: rest)) : zW p l e R s m args below meth c D A cells slots Q nL ws lv pc (.int y :: .int x :: rest) := fun _ _ _ h1 h2 h3 h4 => va_mmin hF.1 hF.2.1 (by rw [hF.2.2.1]; exact h1.1.symm) hF.2.2.2.1 (zw hF hl) (zw hF wx_min_static) (zw hF wz_Mth) (zw hF wx_min_code) hframes hlocals hf.1 hf.2 hdg (by rw [hv]; exact k _ _ _ h1 h2 h3 h4)
theorem zx_WVi (hF : zF p s m args c cc nL own D K M A) {y : MethodName} {index maxL n : Nat} {bytes : ByteArray} {ret : Option FieldType} {rm : Room} {b : Nat} {As st0 : List Value} {r : Int32} {w1 : va_W} (hM : ∀ sz : Nat, zM l y (zT y bytes maxL ret) rm 0 0 D K M (.ref b :: As) ws sz (zQi D K M r w1)) {C : String} (q0 ci : Nat) {fs : List Value} {cq : vw_C} (hq0 : ws[q0]? = some (b, .inr (ci, fs))) (hcq : zCl[ci]? = some cq) (hcC : cq.1 = C) (cw : CallW R s args own C index y bytes maxL ret (zT y bytes maxL ret) rm 0 0 n) (hlen : As.length = n) (hst : st0 = (As.reverse ++ .ref b :: rest)) (hroom : (rest.map fun v => v.category).sum ≤ 8) (hdg : decode cc pc = .ok (.invokevirtual index, 3)) (hf : cells ≤ R.cells ∧ slots ≤ R.slots) (k : zW p l e R s m args below meth c D A cells slots Q nL w1 lv (pc + 3) (.int r :: rest)) : zW p l e R s m args below meth c D A cells slots Q nL ws lv pc st0 := fun H locs ls h1 h2 h3 h4 => by
  subst hst
  have hFc : ∀ q, va_A ws H.size q → A q := by
    rintro q (⟨k, e, h⟩ | h)
    · exact h3.2 k (q, e) h
    · exact hF.2.2.2.2.2.2 q (Nat.le_trans h4.1 h)
  have hKc := hF.2.2.2.2.2.1
  refine va_calli (va_runV ⟨hF.1, hF.2.1, hF.2.2.1, hF.2.2.2.1, hF.2.2.2.2.1⟩ (hM H.size) cw ⟨zx_blind, by obtain ⟨cell, g1, g2, g3⟩ := va_recv hKc h2 hcq hq0; exact ⟨cell, g1, g2, by rw [← hcC]; exact g3⟩, fun U hU hW => ⟨rfl, by rw [hU], by rw [hU]; exact h2, va_K.moved hW.alike hKc, h3.weaken (fun _ _ _ _ => trivial)⟩⟩ rfl hlen h1.1 rfl (lv_room hroom) hdg ⟨hf.1, hf.2⟩) h4 (fun q _ h => hFc q h) hFc (fun r9 u t H1 locs1 ht hvm hp hB hz hk hS => ?_)
  subst hp
  obtain ⟨hP1, hK1, hD1⟩ := hB
  rw [ht] at hP1
  exact k H1 locs1 ls h1 hP1 (hD1.weaken (fun _ q _ h => hFc q.1 h)) hS
theorem zx_WVl (hF : zF p s m args c cc nL own D K M A) {y : MethodName} {index maxL n : Nat} {bytes : ByteArray} {ret : Option FieldType} {rm : Room} {b : Nat} {As st0 : List Value} {r : Int64} {w1 : va_W} (hM : ∀ sz : Nat, zM l y (zT y bytes maxL ret) rm 0 0 D K M (.ref b :: As) ws sz (zQl D K M r w1)) {C : String} (q0 ci : Nat) {fs : List Value} {cq : vw_C} (hq0 : ws[q0]? = some (b, .inr (ci, fs))) (hcq : zCl[ci]? = some cq) (hcC : cq.1 = C) (cw : CallW R s args own C index y bytes maxL ret (zT y bytes maxL ret) rm 0 0 n) (hlen : As.length = n) (hst : st0 = (As.reverse ++ .ref b :: rest)) (hroom : (rest.map fun v => v.category).sum ≤ 8) (hdg : decode cc pc = .ok (.invokevirtual index, 3)) (hf : cells ≤ R.cells ∧ slots ≤ R.slots) (k : zW p l e R s m args below meth c D A cells slots Q nL w1 lv (pc + 3) (.long r :: rest)) : zW p l e R s m args below meth c D A cells slots Q nL ws lv pc st0 := fun H locs ls h1 h2 h3 h4 => by
  subst hst
  have hFc : ∀ q, va_A ws H.size q → A q := by
    rintro q (⟨k, e, h⟩ | h)
    · exact h3.2 k (q, e) h
    · exact hF.2.2.2.2.2.2 q (Nat.le_trans h4.1 h)
  have hKc := hF.2.2.2.2.2.1
  refine va_calll (va_runV ⟨hF.1, hF.2.1, hF.2.2.1, hF.2.2.2.1, hF.2.2.2.2.1⟩ (hM H.size) cw ⟨zx_blind, by obtain ⟨cell, g1, g2, g3⟩ := va_recv hKc h2 hcq hq0; exact ⟨cell, g1, g2, by rw [← hcC]; exact g3⟩, fun U hU hW => ⟨rfl, by rw [hU], by rw [hU]; exact h2, va_K.moved hW.alike hKc, h3.weaken (fun _ _ _ _ => trivial)⟩⟩ rfl hlen h1.1 rfl (lv_room hroom) hdg ⟨hf.1, hf.2⟩) h4 (fun q _ h => hFc q h) hFc (fun r9 u t H1 locs1 ht hvm hp hB hz hk hS => ?_)
  subst hp
  obtain ⟨hP1, hK1, hD1⟩ := hB
  rw [ht] at hP1
  exact k H1 locs1 ls h1 hP1 (hD1.weaken (fun _ q _ h => hFc q.1 h)) hS
theorem zx_WVv (hF : zF p s m args c cc nL own D K M A) {y : MethodName} {index maxL n : Nat} {bytes : ByteArray} {ret : Option FieldType} {rm : Room} {b : Nat} {As st0 : List Value}  {w1 : va_W} (hM : ∀ sz : Nat, zM l y (zT y bytes maxL ret) rm 0 0 D K M (.ref b :: As) ws sz (zQv D K M w1)) {C : String} (q0 ci : Nat) {fs : List Value} {cq : vw_C} (hq0 : ws[q0]? = some (b, .inr (ci, fs))) (hcq : zCl[ci]? = some cq) (hcC : cq.1 = C) (cw : CallW R s args own C index y bytes maxL ret (zT y bytes maxL ret) rm 0 0 n) (hlen : As.length = n) (hst : st0 = (As.reverse ++ .ref b :: rest)) (hroom : (rest.map fun v => v.category).sum ≤ 8) (hdg : decode cc pc = .ok (.invokevirtual index, 3)) (hf : cells ≤ R.cells ∧ slots ≤ R.slots) (k : zW p l e R s m args below meth c D A cells slots Q nL w1 lv (pc + 3) rest) : zW p l e R s m args below meth c D A cells slots Q nL ws lv pc st0 := fun H locs ls h1 h2 h3 h4 => by
  subst hst
  have hFc : ∀ q, va_A ws H.size q → A q := by
    rintro q (⟨k, e, h⟩ | h)
    · exact h3.2 k (q, e) h
    · exact hF.2.2.2.2.2.2 q (Nat.le_trans h4.1 h)
  have hKc := hF.2.2.2.2.2.1
  refine va_callv (va_runV ⟨hF.1, hF.2.1, hF.2.2.1, hF.2.2.2.1, hF.2.2.2.2.1⟩ (hM H.size) cw ⟨zx_blind, by obtain ⟨cell, g1, g2, g3⟩ := va_recv hKc h2 hcq hq0; exact ⟨cell, g1, g2, by rw [← hcC]; exact g3⟩, fun U hU hW => ⟨rfl, by rw [hU], by rw [hU]; exact h2, va_K.moved hW.alike hKc, h3.weaken (fun _ _ _ _ => trivial)⟩⟩ rfl hlen h1.1 rfl (lv_room hroom) hdg ⟨hf.1, hf.2⟩) h4 (fun q _ h => hFc q h) hFc (fun u t H1 locs1 ht hvm hp hB hz hk hS => ?_)
  clear hp
  obtain ⟨hP1, hK1, hD1⟩ := hB
  rw [ht] at hP1
  exact k H1 locs1 ls h1 hP1 (hD1.weaken (fun _ q _ h => hFc q.1 h)) hS
end ZY
