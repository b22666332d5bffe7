def eBal (U : State) : Prop := va_Nw (.methodLinkNest R_Bal 11 y_Ent_init "PacketSpreader") U
def ePS (U : State) : Prop := va_Nw (.methodLinkNest R_PS 15 y_Wir_init "PacketSpreader") U ∧ va_Nw (.methodLinkNest R_PS 58 y_Srv_init "PacketSpreader") U ∧ eBal U ∧ va_AO "PacketSpreader$Server" U ∧ va_AO "PacketSpreader$Balancer" U
/-- such words stay: over a call's frame, over a warmer machine -/
def zE (E : State → Prop) : Prop := (∀ (U : State) (g : JFrame) (mk : MethodId) (a : Array Value), E U → E (U.calling g mk a)) ∧ ∀ (s U : State), s.WarmedH U.vm → E s → E U
theorem zE_Bal : zE eBal := ⟨fun _ _ _ _ h => va_Nw.same rfl rfl h, fun _ _ hW h => va_Nw.warmM hW h⟩
theorem zE_PS : zE ePS := ⟨fun U g mk a h => ⟨va_Nw.same rfl rfl h.1, va_Nw.same rfl rfl h.2.1, zE_Bal.1 U g mk a h.2.2.1, va_AO.moved (u := U) (U := U.calling g mk a) (Vm.Alike.refl U.vm) h.2.2.2.1, va_AO.moved (u := U) (U := U.calling g mk a) (Vm.Alike.refl U.vm) h.2.2.2.2⟩, fun s U hW h => ⟨va_Nw.warmM hW h.1, va_Nw.warmM hW h.2.1, zE_Bal.2 s U hW h.2.2.1, va_AO.moved hW.alike h.2.2.2.1, va_AO.moved hW.alike h.2.2.2.2⟩⟩
def zAx (D : va_G) (K : Nat → ClassId) (M : List (ClassId × FieldType)) (E : State → Prop) (w0 : va_W) (sz : Nat) (U : State) : Prop := zA D K M w0 sz U ∧ E U
abbrev zMx (l : Launch) (y : MethodName) (Ys : List Cond) (rm : Room) (mc ms : Nat) (D : va_G) (K : Nat → ClassId) (M : List (ClassId × FieldType)) (E : State → Prop) (av : List Value) (w0 : va_W) (sz : Nat) (QC : (Nat → Prop) → Array Value → State → Outcome → State → Prop) : Prop :=
  Met l y Ys rm (va_Pc av (zAx D K M E w0 sz)) (QC (va_A w0 sz)) mc ms (va_A w0 sz)
theorem zx_blindx {D : va_G} {K : Nat → ClassId} {M : List (ClassId × FieldType)} {E : State → Prop} (hE : zE E) {av : List Value} {w0 : va_W} {sz : Nat} : FrameBlind (va_Pc av (zAx D K M E w0 sz)) := fun a U g mk q => by
  obtain ⟨q0, ⟨q1, qP, qK, qD⟩, qE⟩ := q
  exact ⟨q0, ⟨q1, qP, va_K.moved (u := U) (U := U.calling g mk a) (Vm.Alike.refl U.vm) qK, qD⟩, hE.1 U g mk a qE⟩
/-- the same cells in another order, by their places -/
theorem zperm_idx {ws ws' : va_W} (is : List Nat) (hp : is.Perm (List.range ws.length)) (hC : is.map (fun i => ws[i]?) = ws'.map some) : ws.Perm ws' := by
  have h1 : (is.map (fun i => ws[i]?)).Perm ((List.range ws.length).map (fun i => ws[i]?)) := hp.map _
  have h2 : (List.range ws.length).map (fun i => ws[i]?) = ws.map some := by
    apply List.ext_getElem?
    intro k
    rw [List.getElem?_map, List.getElem?_map]
    by_cases hk : k < ws.length
    · rw [List.getElem?_range hk, List.getElem?_eq_getElem hk]
      show some (ws[k]?) = some (some ws[k])
      rw [List.getElem?_eq_getElem hk]
    · rw [List.getElem?_eq_none (by rw [List.length_range]; omega), List.getElem?_eq_none (by omega)]
      rfl
  rw [hC, h2] at h1
  have h3 : (ws'.filterMap some).Perm (ws.filterMap some) := by
    have h4 := h1.filterMap id
    rw [List.filterMap_map, List.filterMap_map] at h4
    exact h4
  rw [List.filterMap_some, List.filterMap_some] at h3
  exact h3.symm
section ZU
variable {p : Program} {l : Launch} {e : Env} {R : Room} {s : State} {m : MethodId} {args : Array Value} {below : List Frame} {meth : Method} {c : Code} {cells slots : Nat} {Q : State → Prop}
variable {cc : ByteArray} {nL pc : Nat} {rest : List Value} {D : va_G} {K : Nat → ClassId} {M : List (ClassId × FieldType)} {A : Nat → Prop} {ws : va_W} {lv : List (Nat × Value)} {own : String}
theorem zx_headx {y : MethodName} {rm : Room} {mc ms : Nat} {E : State → Prop} {av : List Value} {w0 : va_W} {sz : Nat} {ret : Option FieldType} {QC : (Nat → Prop) → Array Value → State → Outcome → State → Prop} (hy : plainName y.cls = true) (hav : (lg_sl av).length ≤ nL)
    (body : ∀ (p : Program) (e : Env) (s : State) (m : MethodId) (args : Array Value) (below : List Frame) (meth : Method) (c : Code) (A : Nat → Prop), zF p s m args c cc nL y.cls D K M A → meth.sig.returnType = ret → meth.locks = false → meth.name = y.name → E s →
      zW p l e rm s m args below meth c D A 0 0 (MQ below (QC A) args s mc ms A) nL w0 (lv_args 0 av) 0 []) : zMx l y (zT y cc nL ret) rm mc ms D K M E av w0 sz QC := by
  refine Met.ofW (cc := cc) (maxL := nL) (ret := ret) hy rfl ?_
  intro p e s m args below meth c s₁ B hml hv
  obtain ⟨rfl, ⟨hsz, hP, hK, hD0⟩, hE⟩ := hv
  subst hsz
  have hts := atoms_spec (ws := zT y cc nL ret) B.pre
  have hown : s.vm.findClass y.cls = some m.cls := findClass_of_methodNamed B.named
  have hin : meth.name = y.name := (name_of_methodNamed B.named B.method).1
  have hl := lv_entry av hav
  rw [lg_entry_eq]
  exact body p e s m av.toArray below meth c _ ⟨B.exec, B.bytes, hml, hown, fun w h => hts w (List.mem_cons_of_mem _ h), hK, fun q h => Or.inr h⟩ B.returns B.notSynchronized hin hE s.heap [] _ hl hP (hD0.self (sz := s.heap.size)) va_S.rf
/-- a constructor that needs such words; what it tells at its end: S -/
theorem zx_Ix {S : Type} (hF : zF p s m args c cc nL own D K M A) {y : MethodName} {index maxL n mc ms : Nat} {bytes : ByteArray} {rm : Room} {E : State → Prop} (hE : zE E) (he : E s) {b : Nat} {As st0 : List Value} {wc : va_W} {w1 wn : S → va_W} {M1 : S → List (ClassId × FieldType)} (hM : ∀ sz : Nat, zMx l y (zT y bytes maxL none) rm mc ms D K M E (.ref b :: As) wc sz (fun A => va_Qv (fun (_ : S) => True) (fun u => zB D K (M1 u) A (w1 u ++ wn u)) A)) (is : List Nat) (hC : is.map (fun i => ws[i]?) = wc.map some) (hn : is.Nodup) {as : List Nat} (hf1 : ∀ u, (w1 u).map Prod.fst = as) (hf2 : wc.map Prod.fst = as) (cw : CallB R s args own index y bytes maxL none (zT y bytes maxL none) rm mc ms n ∧ y.name = "<init>" ∧ (Cond.instanceMethod y).before args s = true) (hlen : As.length = n) (hst : st0 = (As.reverse ++ .ref b :: rest)) (hroom : (rest.map fun v => v.category).sum ≤ 8) (hdg : decode cc pc = .ok (.invokespecial index, 3)) (hf : cells + mc ≤ R.cells ∧ slots + ms ≤ R.slots) (k : ∀ u : S, zF p s m args c cc nL own D K (M1 u) A → zW p l e R s m args below meth c D A (cells + mc) (slots + ms) Q nL (zset ws is (w1 u) ++ wn u) lv (pc + 3) rest) : zW p l e R s m args below meth c D A cells slots Q nL ws lv pc st0 := fun H locs ls h1 h2 h3 h4 => by
  subst hst
  obtain ⟨hPc, hDc⟩ := zsubP h2 h3 is hC hn
  have hFc := zfree h3 h4 hF.2.2.2.2.2.2 is hC
  have hKc := hF.2.2.2.2.2.1
  refine va_callv (va_runI ⟨hF.1, hF.2.1, hF.2.2.1, hF.2.2.2.1, hF.2.2.2.2.1⟩ (hM H.size) cw ⟨zx_blindx hE, fun U hU hW => ⟨rfl, ⟨by rw [hU], by rw [hU]; exact hPc, va_K.moved hW.alike hKc, hDc.weaken (fun _ _ _ _ => trivial)⟩, hE.2 s U hW he⟩⟩ rfl hlen h1.1 rfl (lv_room hroom) hdg hf) h4 (fun q _ h => hFc q h) hFc (fun u t H1 locs1 ht hvm hp hB hz hk hS => ?_)
  obtain ⟨hP1, hK1, hD1⟩ := hB
  rw [ht] at hP1
  obtain ⟨hP2, hD2⟩ := zjoin (w1 := w1 u) (wn := wn u) h2 h3 is hC hn ((hf1 u).trans hf2.symm) hk hFc hP1 hD1
  exact k u ⟨hF.1, hF.2.1, hF.2.2.1, hF.2.2.2.1, hF.2.2.2.2.1, va_K.moved (Vm.Alike.symm hvm) hK1, hF.2.2.2.2.2.2⟩ H1 locs1 ls h1 hP2 hD2 hS
end ZU
