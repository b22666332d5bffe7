theorem wa_int : Cond.arrayClass .int ∈ zAll := zi 35 (by decide +kernel) rfl
theorem wa_boolean : Cond.arrayClass .boolean ∈ zAll := zi 103 (by decide +kernel) rfl
theorem wa_long : Cond.arrayClass .long ∈ zAll := zi 756 (by decide +kernel) rfl
section ZZ
variable {p : Program} {l : Launch} {e : Env} {R : Room} {s : State} {m : MethodId} {args : Array Value} {below : List Frame} {meth : Method} {c : Code} {cells slots : Nat} {Q : State → Prop}
variable {cc : ByteArray} {nL pc : Nat} {rest : List Value} {D : va_G} {K : Nat → ClassId} {M : List (ClassId × FieldType)} {A : Nat → Prop} {ws : va_W} {lv : List (Nat × Value)} {own : String}
theorem zx_wide {cells' slots' : Nat} {st : List Value} (h1 : cells ≤ cells') (h2 : slots ≤ slots') (k : zW p l e R s m args below meth c D A cells' slots' Q nL ws lv pc st) : zW p l e R s m args below meth c D A cells slots Q nL ws lv pc st := fun _ _ _ g1 g2 g3 g4 T hT X => k _ _ _ g1 g2 g3 g4 T hT (stand_widen X h1 h2)
theorem zx_new (hF : zF p s m args c cc nL own D K M A) {C : String} {T : u_T} {N ci index : Nat} (hin : ∀ w ∈ u_ws C T N, w ∈ zAll) (ty : Nat → FieldType) (hty : ∀ k, k < N → parseFieldDescriptor (T k).2.2.1 = some (ty k)) (hcl : Cond.classLink own index C ∈ zAll) (hinst : Cond.instantiable C N ∈ zAll) (hini : Cond.initialized C ∈ zAll) (hc : zCl[ci]? = some (C, T, N)) {fs : List Value} (hfs : ∀ j, j < N → defaultValue (ty j) = vp_V fs j) (hcells : cells + 1 ≤ R.cells) (hslots : slots + N ≤ R.slots) (hdg : decode cc pc = .ok (.new index, 3)) (k : ∀ q : Nat, zW p l e R s m args below meth c D A (cells + 1) (slots + N) Q nL (ws ++ [cO q ci fs]) lv (pc + 3) (.ref q :: rest)) : zW p l e R s m args below meth c D A cells slots Q nL ws lv pc rest := fun _ _ _ h1 h2 h3 h4 => va_new hF.1 hF.2.1 hF.2.2.2.2.1 hin ty hty hF.2.2.2.1 (zw hF hcl) (zw hF hinst) (zw hF hini) hF.2.2.2.2.2.1 h2 h3 h4 hF.2.2.2.2.2.2 hc hfs hcells hslots hdg (fun q _ g1 g2 g3 => k q _ _ _ h1 g1 g2 g3)
theorem zx_newaI (hF : zF p s m args c cc nL own D K M A) {n : Nat} (bd : Nat) (hn : n ≤ bd) (hb : bd < 1000000) (hcells : cells + 1 ≤ R.cells) (hslots : slots + bd ≤ R.slots) (hdg : decode cc pc = .ok (.newarray .int, 2)) (k : ∀ q : Nat, zW p l e R s m args below meth c D A (cells + 1) (slots + bd) Q nL (ws ++ [cI K q n (fun _ => 0)]) lv (pc + 2) (.ref q :: rest)) : zW p l e R s m args below meth c D A cells slots Q nL ws lv pc (.int (nI n) :: rest) := fun H locs ls h1 h2 h3 h4 => by
  refine va_newa (atype := .int) (ty := .int) (N' := n) (a0 := (n, (.inl (fun _ => 0)))) hF.1 hF.2.1 (zw hF wa_int) rfl hF.2.2.2.2.2.1 h2 h3 h4 hF.2.2.2.2.2.2 (fun _ => rfl) (nI_pos (by omega)) (nI_clamp (by omega)) (by show n * _ ≤ _; simp only [componentBytes]; omega) hcells (Nat.le_trans (Nat.add_le_add_left hn _) hslots) hdg ?_
  intro q cA H1 g1 g2 g3 g4
  have e1 : va_RA s cA .int := (g1.2 (zTy K M).length (cA, .int) (by rw [List.getElem?_append_right (Nat.le_refl _), Nat.sub_self]; rfl)).2
  have e2 : va_RA s (K 0) .int := (hF.2.2.2.2.2.1.2 0 (K 0, .int) rfl).2
  have e3 : cA = K 0 := Option.some.inj (Eq.trans (Eq.symm e1) e2)
  subst e3
  exact fun T hT X => k q H1 locs ls h1 g2 g3 g4 T hT (stand_widen X (Nat.le_refl _) (Nat.add_le_add_left hn _))
theorem zx_newaZ (hF : zF p s m args c cc nL own D K M A) {n : Nat} (bd : Nat) (hn : n ≤ bd) (hb : bd < 1000000) (hcells : cells + 1 ≤ R.cells) (hslots : slots + bd ≤ R.slots) (hdg : decode cc pc = .ok (.newarray .boolean, 2)) (k : ∀ q : Nat, zW p l e R s m args below meth c D A (cells + 1) (slots + bd) Q nL (ws ++ [cZ K q n (fun _ => 0)]) lv (pc + 2) (.ref q :: rest)) : zW p l e R s m args below meth c D A cells slots Q nL ws lv pc (.int (nI n) :: rest) := fun H locs ls h1 h2 h3 h4 => by
  refine va_newa (atype := .boolean) (ty := .boolean) (N' := n) (a0 := (n, (.inl (fun _ => 0)))) hF.1 hF.2.1 (zw hF wa_boolean) rfl hF.2.2.2.2.2.1 h2 h3 h4 hF.2.2.2.2.2.2 (fun _ => rfl) (nI_pos (by omega)) (nI_clamp (by omega)) (by show n * _ ≤ _; simp only [componentBytes]; omega) hcells (Nat.le_trans (Nat.add_le_add_left hn _) hslots) hdg ?_
  intro q cA H1 g1 g2 g3 g4
  have e1 : va_RA s cA .boolean := (g1.2 (zTy K M).length (cA, .boolean) (by rw [List.getElem?_append_right (Nat.le_refl _), Nat.sub_self]; rfl)).2
  have e2 : va_RA s (K 1) .boolean := (hF.2.2.2.2.2.1.2 1 (K 1, .boolean) rfl).2
  have e3 : cA = K 1 := Option.some.inj (Eq.trans (Eq.symm e1) e2)
  subst e3
  exact fun T hT X => k q H1 locs ls h1 g2 g3 g4 T hT (stand_widen X (Nat.le_refl _) (Nat.add_le_add_left hn _))
theorem zx_newaJ (hF : zF p s m args c cc nL own D K M A) {n : Nat} (bd : Nat) (hn : n ≤ bd) (hb : bd < 1000000) (hcells : cells + 1 ≤ R.cells) (hslots : slots + bd ≤ R.slots) (hdg : decode cc pc = .ok (.newarray .long, 2)) (k : ∀ q : Nat, zW p l e R s m args below meth c D A (cells + 1) (slots + bd) Q nL (ws ++ [cJ K q n (fun _ => 0)]) lv (pc + 2) (.ref q :: rest)) : zW p l e R s m args below meth c D A cells slots Q nL ws lv pc (.int (nI n) :: rest) := fun H locs ls h1 h2 h3 h4 => by
  refine va_newa (atype := .long) (ty := .long) (N' := n) (a0 := (n, (.inr (.inl (fun _ => 0))))) hF.1 hF.2.1 (zw hF wa_long) rfl hF.2.2.2.2.2.1 h2 h3 h4 hF.2.2.2.2.2.2 (fun _ => rfl) (nI_pos (by omega)) (nI_clamp (by omega)) (by show n * _ ≤ _; simp only [componentBytes]; omega) hcells (Nat.le_trans (Nat.add_le_add_left hn _) hslots) hdg ?_
  intro q cA H1 g1 g2 g3 g4
  have e1 : va_RA s cA .long := (g1.2 (zTy K M).length (cA, .long) (by rw [List.getElem?_append_right (Nat.le_refl _), Nat.sub_self]; rfl)).2
  have e2 : va_RA s (K 2) .long := (hF.2.2.2.2.2.1.2 2 (K 2, .long) rfl).2
  have e3 : cA = K 2 := Option.some.inj (Eq.trans (Eq.symm e1) e2)
  subst e3
  exact fun T hT X => k q H1 locs ls h1 g2 g3 g4 T hT (stand_widen X (Nat.le_refl _) (Nat.add_le_add_left hn _))
theorem zx_oi (hF : zF p s m args c cc nL own D K M A) {index a : Nat} (hl : Cond.methodLink own index objectInit ∈ zAll) (hframes : 1 ≤ R.frames) (hlocals : (rest.map fun v => v.category).sum + 12 ≤ R.locals) (hdg : decode cc pc = .ok (.invokespecial index, 3)) (k : zW p l e R s m args below meth c D A cells slots Q nL ws lv (pc + 3) rest) : zW p l e R s m args below meth c D A cells slots Q nL ws lv pc (.ref a :: rest) := fun _ _ _ h1 h2 h3 h4 => W.objInit hF.1 hF.2.1 hF.2.2.2.1 (zw hF hl) (zw hF wx_oi_inst) (zw hF wx_oi_code) rfl (by rw [hF.2.2.1]; exact h1.1) rfl hdg hframes (by show 2 * 0 + _ + 12 ≤ _; omega) (k _ _ _ h1 h2 h3 h4)
/-- a row of references: its class comes to the tables of arrays -/
theorem zx_anew (hF : zF p s m args c cc nL own D K M A) {C : String} {index n : Nat} (bd : Nat) (hn : n ≤ bd) (hb : bd < 1000000) (hcl : Cond.classLink own index C ∈ zAll) (hover : va_AO C s) (hcells : cells + 1 ≤ R.cells) (hslots : slots + bd ≤ R.slots) (hdg : decode cc pc = .ok (.anewarray index, 3)) (k : ∀ (q : Nat) (cA : ClassId), zF p s m args c cc nL own D K (M ++ [(cA, .object C)]) A → zW p l e R s m args below meth c D A (cells + 1) (slots + bd) Q nL (ws ++ [cR cA q n (fun _ => none)]) lv (pc + 3) (.ref q :: rest)) : zW p l e R s m args below meth c D A cells slots Q nL ws lv pc (.int (nI n) :: rest) := fun H locs ls h1 h2 h3 h4 => by
  refine va_newq (N' := n) hF.1 hF.2.1 hF.2.2.2.1 (zw hF hcl) hover hF.2.2.2.2.2.1 h2 h3 h4 hF.2.2.2.2.2.2 (nI_pos (by omega)) (nI_clamp (by omega)) (by omega) hcells (Nat.le_trans (Nat.add_le_add_left hn _) hslots) hdg ?_
  intro q cA H1 g1 g2 g3 g4
  exact fun T hT X => k q cA ⟨hF.1, hF.2.1, hF.2.2.1, hF.2.2.2.1, hF.2.2.2.2.1, g1, hF.2.2.2.2.2.2⟩ H1 locs ls h1 g2 g3 g4 T hT (stand_widen X (Nat.le_refl _) (Nat.add_le_add_left hn _))
theorem zx_aast (hF : zF p s m args c cc nL own D K M A) (q0 t0 qk ci : Nat) {a n v i : Nat} {cA : ClassId} {r : vw_C} {vs : List Value} {f : Nat → Option Nat} (ha : ws[q0]? = some (cR cA a n f)) (ht : (zTy K M)[t0]? = some (cA, .object r.1)) (hv : ws[qk]? = some (cO v ci vs)) (hc : zCl[ci]? = some r) (hi : i < n) (hn : n < 2 ^ 31) (hdg : decode cc pc = .ok (.aastore, 1)) {ws' : va_W} (hw : ws.set q0 (cR cA a n (va_up f i (some v))) = ws') (k : zW p l e R s m args below meth c D A cells slots Q nL ws' lv (pc + 1) rest) : zW p l e R s m args below meth c D A cells slots Q nL ws lv pc (.ref v :: .int (nI i) :: .ref a :: rest) := fun _ _ _ h1 h2 h3 h4 => va_astq hF.1 hF.2.1 hF.2.2.2.2.2.1 h2 h3 h4 q0 t0 qk ci ha ht hv hc (vp_in_nI hi hn) hdg (fun _ _ h5 h6 h7 => k _ _ _ h1 (by rw [← hw]; rw [nI_clamp (Nat.lt_trans hi hn)] at h5; exact h5) (by rw [← hw]; rw [nI_clamp (Nat.lt_trans hi hn)] at h6; exact h6) h7)
theorem zx_Iv (hF : zF p s m args c cc nL own D K M A) {y : MethodName} {index maxL n mc ms : Nat} {bytes : ByteArray} {rm : Room} {b : Nat} {As st0 : List Value} {wc : va_W} {w1 wn : (Nat → Nat) → va_W} (hM : ∀ sz : Nat, zM l y (zT y bytes maxL none) rm mc ms D K M (.ref b :: As) wc sz (zQn D K M (fun u => w1 u ++ wn u))) (is : List Nat) (hC : is.map (fun i => ws[i]?) = wc.map some) (hn : is.Nodup) {as : List Nat} (hf1 : ∀ u, (w1 u).map Prod.fst = as) (hf2 : wc.map Prod.fst = as) (cw : CallB R s args own index y bytes maxL none (zT y bytes maxL none) rm mc ms n ∧ y.name = "<init>" ∧ (Cond.instanceMethod y).before args s = true) (hlen : As.length = n) (hst : st0 = (As.reverse ++ .ref b :: rest)) (hroom : (rest.map fun v => v.category).sum ≤ 8) (hdg : decode cc pc = .ok (.invokespecial index, 3)) (hf : cells + mc ≤ R.cells ∧ slots + ms ≤ R.slots) (k : ∀ u : Nat → Nat, zW p l e R s m args below meth c D A (cells + mc) (slots + ms) Q nL (zset ws is (w1 u) ++ wn u) lv (pc + 3) rest) : zW p l e R s m args below meth c D A cells slots Q nL ws lv pc st0 := fun H locs ls h1 h2 h3 h4 => by
  subst hst
  obtain ⟨hPc, hDc⟩ := zsubP h2 h3 is hC hn
  have hFc := zfree h3 h4 hF.2.2.2.2.2.2 is hC
  have hKc := hF.2.2.2.2.2.1
  refine va_callv (va_runI ⟨hF.1, hF.2.1, hF.2.2.1, hF.2.2.2.1, hF.2.2.2.2.1⟩ (hM H.size) cw ⟨zx_blind, fun U hU hW => ⟨rfl, by rw [hU], by rw [hU]; exact hPc, va_K.moved hW.alike hKc, hDc.weaken (fun _ _ _ _ => trivial)⟩⟩ rfl hlen h1.1 rfl (lv_room hroom) hdg hf) h4 (fun q _ h => hFc q h) hFc (fun u t H1 locs1 ht hvm hp hB hz hk hS => ?_)
  obtain ⟨hP1, hK1, hD1⟩ := hB
  rw [ht] at hP1
  obtain ⟨hP2, hD2⟩ := zjoin (w1 := w1 u) (wn := wn u) h2 h3 is hC hn ((hf1 u).trans hf2.symm) hk hFc hP1 hD1
  exact k u H1 locs1 ls h1 hP2 hD2 hS
theorem zx_Nv (hF : zF p s m args c cc nL own D K M A) {y : MethodName} {index maxL n mc ms : Nat} {host : String} {bytes : ByteArray} {rm : Room} {b : Nat} {As st0 : List Value} {wc : va_W} {w1 wn : (Nat → Nat) → va_W} (hM : ∀ sz : Nat, zM l y (zT y bytes maxL none) rm mc ms D K M (.ref b :: As) wc sz (zQn D K M (fun u => w1 u ++ wn u))) (is : List Nat) (hC : is.map (fun i => ws[i]?) = wc.map some) (hn : is.Nodup) {as : List Nat} (hf1 : ∀ u, (w1 u).map Prod.fst = as) (hf2 : wc.map Prod.fst = as) (cw : va_CN R s args own index y host bytes maxL none (zT y bytes maxL none) rm mc ms n ∧ y.name = "<init>" ∧ (Cond.instanceMethod y).before args s = true) (hlen : As.length = n) (hst : st0 = (As.reverse ++ .ref b :: rest)) (hroom : (rest.map fun v => v.category).sum ≤ 8) (hdg : decode cc pc = .ok (.invokespecial index, 3)) (hf : cells + mc ≤ R.cells ∧ slots + ms ≤ R.slots) (k : ∀ u : Nat → Nat, zW p l e R s m args below meth c D A (cells + mc) (slots + ms) Q nL (zset ws is (w1 u) ++ wn u) lv (pc + 3) rest) : zW p l e R s m args below meth c D A cells slots Q nL ws lv pc st0 := fun H locs ls h1 h2 h3 h4 => by
  subst hst
  obtain ⟨hPc, hDc⟩ := zsubP h2 h3 is hC hn
  have hFc := zfree h3 h4 hF.2.2.2.2.2.2 is hC
  have hKc := hF.2.2.2.2.2.1
  refine va_callv (va_runIN ⟨hF.1, hF.2.1, hF.2.2.1, hF.2.2.2.1, hF.2.2.2.2.1⟩ (hM H.size) cw ⟨zx_blind, fun U hU hW => ⟨rfl, by rw [hU], by rw [hU]; exact hPc, va_K.moved hW.alike hKc, hDc.weaken (fun _ _ _ _ => trivial)⟩⟩ rfl hlen h1.1 rfl (lv_room hroom) hdg hf) h4 (fun q _ h => hFc q h) hFc (fun u t H1 locs1 ht hvm hp hB hz hk hS => ?_)
  obtain ⟨hP1, hK1, hD1⟩ := hB
  rw [ht] at hP1
  obtain ⟨hP2, hD2⟩ := zjoin (w1 := w1 u) (wn := wn u) h2 h3 is hC hn ((hf1 u).trans hf2.symm) hk hFc hP1 hD1
  exact k u H1 locs1 ls h1 hP2 hD2 hS
theorem zx_loopN {σ : Type} (I : Nat → σ → Prop) (wf : σ → va_W) (lf : σ → List (Nat × Value)) (cf sf : σ → Nat) {st : List Value} (k0 : Nat) (x0 : σ) (h0 : I k0 x0) (hw : ws = wf x0) (hl : lv = lf x0) (hcf : cells = cf x0) (hsf : slots = sf x0) (step : ∀ (k : Nat) (x : σ), I k x → (∀ (k' : Nat) (x' : σ), k' < k → I k' x' → zW p l e R s m args below meth c D A (cf x') (sf x') Q nL (wf x') (lf x') pc st) → zW p l e R s m args below meth c D A (cf x) (sf x) Q nL (wf x) (lf x) pc st) : zW p l e R s m args below meth c D A cells slots Q nL ws lv pc st := by
  subst hw; subst hl; subst hcf; subst hsf
  have key : ∀ (k : Nat) (x : σ), I k x → zW p l e R s m args below meth c D A (cf x) (sf x) Q nL (wf x) (lf x) pc st := by
    intro k
    induction k using Nat.strongRecOn with
    | _ k ih =>
      intro x hx
      exact step k x hx (fun k' x' hk' hx' => ih k' hk' x' hx')
  exact key k0 x0 h0
abbrev zRc (f n mc ms : Nat) : Room := { frames := f, cells := mc, slots := ms, locals := n }
end ZZ
