/-! THE CLAIM OUT OF ONE WALK OF THE LAW'S BODY. Your part is whole_start (and what it stands on); all else here is the same for every law, but numbers. -/
def R_law : String := "PacketSpreaderLaw"
def lw_P (b : Addr) (xs : List Int32) (args : Array Value) (s : State) : Prop := args = #[.ref b] ∧ s.IntsAt b xs ∧ xs.length ≤ 3076 ∧ (Jvm.Cond.and given_1 narrow_1).before args s = true
def lw_Q (_ : Array Value) (s : State) (o : Outcome) (t : State) : Prop := o = .returned (some (.int 1)) ∧ Framed s o t [] 600000 7302250
def lw_Z (below : List Frame) (a : Array Value) (s : State) : State → Prop := fun t => ∃ o, t.status = .running ∧ Ended t below o ∧ lw_Q a s o t
/-- the law's own end, with 1 on the stack, nothing written that was there before, its room as the claim has it -/
theorem lw_ret {p : Program} {l : Launch} {e : Env} {s : State} {m : MethodId} {below : List Frame} {meth : Method} {c : Code} {b : Nat} (hx : p.tables.exec = Jvm.exec) (hb : c.code = code) (hr : meth.sig.returnType = ret) (hlocks : meth.locks = false) {pc : Nat} {H : Heap} {ls : Array Slot} (hdg : decode code pc = .ok (.ireturn, 1)) : W p l e room_1 s m #[Value.ref b] below meth c H [] 600000 7302250 (lw_Z below #[Value.ref b] s) (F0 m pc ls [.int 1]) := by
  intro T hT X
  obtain ⟨fs, hret, hrun, hended, hW, hframe⟩ := X.leave (v := some (.int 1)) (hlocks := hlocks) (fun h => by rw [hr] at h; cases h)
  have hmeth' : T.vm.method? m = some meth := X.method'
  refine ⟨T.setFrames fs, ?_, .returned (some (.int 1)), hrun, hended, rfl, ⟨_, rfl⟩, hW, hframe⟩
  jvm_step X.here [X.here.top, hx, hb, hdg, hmeth', hr, ret, narrow_b1]
  (try refine ⟨rfl, ?_⟩); (try refine ⟨rfl, ?_⟩)
  first | (intro acts; rw [hret _ acts rfl rfl rfl]) | rw [hret _ _ rfl rfl rfl]
  exact Steps.refl _
/-- what holds at the law's entry: the machine, the code, the tables' words (any of lw_tbl by 'hts w (by decide +kernel)'), the script of L ints xs at the cell b, what the Statement gives of the start (any of its parts by flat_of_before) -/
def lw_At (p : Program) (s : State) (m : MethodId) (meth : Method) (c : Code) (b L : Nat) (xs : Nat → Int32) : Prop :=
  p.tables.exec = Jvm.exec ∧ c.code = code ∧ meth.sig.returnType = ret ∧ c.maxLocals = 4 ∧ s.vm.findClass R_law = some m.cls ∧ (∀ w ∈ lw_tbl, w.before #[Value.ref b] s = true) ∧ va_X b L xs s s.heap ∧ b < s.heap.size ∧ meth.locks = false ∧ (Jvm.Cond.and given_1 narrow_1).before #[Value.ref b] s = true
def lwAd (z1 z0 : Nat) (v w : Nat → Nat) : Nat → Nat := fun k => if k = 0 then z1 else if k < 26 then v (k - 1) else if k = 26 then z0 else w (k - 27)
set_option maxRecDepth 20000 in
set_option maxHeartbeats 4000000 in
theorem whole_top {p : Program} {l : Launch} {e : Env} {s : State} {mm : MethodId} {below : List Frame} {meth : Method} {c : Code} {Q : State → Prop} {D : va_G} {K : Nat → ClassId} {A : Nat → Prop} {bS L : Nat} {xs : Nat → Int32} (hF : zF p s mm #[Value.ref bS] c code 4 R_Law D K [] A) (hE : ePS s) (hX : va_X bS L xs s s.heap) (hbS : bS < s.heap.size) (hA : ¬ A bS) (hL : L ≤ 3076) (kE : ∀ (ws : va_W) (lv : List (Nat × Value)), zW p l e room_1 s mm #[Value.ref bS] below meth c D A 172 2752 Q 4 ws lv 836 []) : zW p l e room_1 s mm #[Value.ref bS] below meth c D A 0 0 Q 4 [] [(0, .ref bS)] 0 [] := by
  obtain ⟨B, b1, b2, hB⟩ := within_nat (lwx L xs 0) (a := 1) (c := 4) (by omega) (by omega)
  obtain ⟨n, n1, n2, hn⟩ := within_nat (lwx L xs 1) (a := 1) (c := 8) (by omega) (by omega)
  obtain ⟨Z0, y1, y2, hZ⟩ := within_nat (lwx L xs 2) (a := 7) (c := 101) (by omega) (by omega)
  obtain ⟨k0, hk0⟩ : ∃ z, Int32.toInt64 (lwx L xs 3) = z := ⟨_, rfl⟩
  obtain ⟨k1, hk1⟩ : ∃ z, Int32.toInt64 (lwx L xs 3) ^^^ 1084818905618843912 = z := ⟨_, rfl⟩
  obtain ⟨m, hm⟩ : ∃ z, f_pf (101 - Z0) Z0 = z := ⟨_, rfl⟩
  have hpf := f_pf_le (101 - Z0) Z0 (by omega)
  have hpr := pf_prime (101 - Z0) Z0 (by omega)
  rw [hm] at hpf hpr
  have hm7 : 7 ≤ m ∧ m ≤ 101 := ⟨by omega, hpf.2⟩
  have hLN0 := lst_LN k0 k1 (n := n) hm7 f_z4
  have hsur := lst_sur k0 k1 (n := n) hm7 hpr
  have hg := lst_g k0 k1 (m := m) ⟨by omega, by omega⟩ n 0 (fun _ => 0) (fun _ => 0) (fun _ => 0) f_z4
  obtain ⟨fst, hfst⟩ : ∃ z, (f_lst k0 k1 m n 0 (fun _ => 0, fun _ => 0, f_z4)).1 = z := ⟨_, rfl⟩
  obtain ⟨stp, hstp⟩ : ∃ z, (f_lst k0 k1 m n 0 (fun _ => 0, fun _ => 0, f_z4)).2.1 = z := ⟨_, rfl⟩
  obtain ⟨dv, hdv⟩ : ∃ z, (f_lst k0 k1 m n 0 (fun _ => 0, fun _ => 0, f_z4)).2.2 = z := ⟨_, rfl⟩
  obtain ⟨wd, hwd⟩ : ∃ z, (g_lst k0 k1 m n 0 (fun _ => 0, fun _ => 0, fun _ => 0)).2.2 = z := ⟨_, rfl⟩
  rw [hfst, hstp] at hLN0 hg
  generalize lfN k0 k1 m = fN at hLN0 hsur
  generalize lsN k0 k1 m = sN at hLN0 hsur
  have hB' : f_clamp (lwx L xs 0) 1 4 = nI B := (clamp_eq _ _ _ (by decide)).trans hB
  have hn' : f_clamp (lwx L xs 1) 1 8 = nI n := (clamp_eq _ _ _ (by decide)).trans hn
  have hZ' : f_clamp (lwx L xs 2) 7 101 = nI Z0 := (clamp_eq _ _ _ (by decide)).trans hZ
  refine zx_new (pc := 0) hF (ci := 0) (fs := [.null, .null, .null, .int 0, .null, .null, .int 0, .int 0, .int 0, .int 0, .int 0]) wu_PS t_PS t_PS_ok wc_Law_7 wn_PS wz_PS rfl hfs_PS (by decide) (by decide) d_Law_law_0 (fun z0 => ?_)
  refine zx_eq (ws' := [cO z0 0 [.null, .null, .null, .int 0, .null, .null, .int 0, .int 0, .int 0, .int 0, .int 0]]) (lv' := [(0, .ref bS)]) rfl rfl rfl ?_
  refine zx_dup (pc := 3) hF d_Law_law_3 rfl ?_
  refine zx_Sc (pc := 4) hF hX hbS hA hL 0 (by omega) ⟨0, rfl⟩ ⟨by decide, by decide⟩ (Nat.le_of_ble_eq_true rfl) rfl d_Law_law_4 d_Law_law_5 d_Law_law_6 ⟨by decide, by decide⟩ ?_
  refine zx_Sc (pc := 9) hF hX hbS hA hL 1 (by omega) ⟨0, rfl⟩ ⟨by decide, by decide⟩ (Nat.le_of_ble_eq_true rfl) rfl d_Law_law_9 d_Law_law_10 d_Law_law_11 ⟨by decide, by decide⟩ ?_
  refine zx_Sc (pc := 14) hF hX hbS hA hL 2 (by omega) ⟨0, rfl⟩ ⟨by decide, by decide⟩ (Nat.le_of_ble_eq_true rfl) rfl d_Law_law_14 d_Law_law_15 d_Law_law_16 ⟨by decide, by decide⟩ ?_
  refine zx_Sc (pc := 19) hF hX hbS hA hL 3 (by omega) ⟨0, rfl⟩ ⟨by decide, by decide⟩ (Nat.le_of_ble_eq_true rfl) rfl d_Law_law_19 d_Law_law_20 d_Law_law_21 ⟨by decide, by decide⟩ ?_
  refine zx_Ix (pc := 24) (S := iS) hF zE_PS hE (As := [.int (lwx L xs 0), .int (lwx L xs 1), .int (lwx L xs 2), .int (lwx L xs 3)]) (rest := [.ref z0]) (w1 := fun u => [cO z0 0 [.ref (u.1 0), .ref (u.1 7), .ref (u.1 8), .int (nI m), .ref (u.1 1), .ref (u.1 2), .int 0, .int (-1), .int (-1), .int (-1), .int 0]]) (wn := fun u => ([cO (u.1 0) 2 [.long k0, .long k1, .long dv.1, .long dv.2.1, .long dv.2.2.1, .long dv.2.2.2], cI K (u.1 1) 5 (fun _ => 0), cO (u.1 2) 10 [.ref (u.1 3)], cI K (u.1 3) 16 (fun _ => 0), cO (u.1 4) 4 [.int (nI m), .ref (u.1 5), .ref (u.1 6)], cI K (u.1 5) n fst, cI K (u.1 6) n stp, cR u.2.1.1 (u.1 7) B (rAd u.2.2.1 B), cR u.2.1.2 (u.1 8) n (rAd u.2.2.2 n)] ++ (bLs K (u.1 4) m n u.2.2.1 (fun _ => iB0) (fun _ => iG0 fN sN m n) (List.range B) ++ sLs K u.2.2.2 (fun _ => iS0) (fun _ => iF0) (List.range n)))) (M1 := fun u => zM2 u.2.1.1 u.2.1.2) (fun sz => N_PS_init l D K z0 (lwx L xs 0) (lwx L xs 1) (lwx L xs 2) (lwx L xs 3) B n Z0 fN sN hk0 hk1 hm hfst hstp hdv ⟨hB', b2⟩ ⟨hn', n2⟩ ⟨hZ', y1, y2⟩ hLN0 sz) [0] rfl (by decide) (as := [z0]) (fun _ => rfl) rfl (ci_Law_15 hF.2.2.2.2.1 rfl rfl ⟨by decide, by decide⟩) rfl rfl (Nat.le_of_ble_eq_true rfl) d_Law_law_24 ⟨by decide, by decide⟩ (fun u hF => ?_)
  obtain ⟨v0, ⟨KB, KS⟩, aB, aS⟩ := u
  refine zx_astore_n (pc := 27) (lv' := [(1, .ref z0), (0, .ref bS)]) hF d_Law_law_27 rfl (by omega) rfl ?_
  refine zx_new (pc := 28) hF (ci := 11) (fs := [.int 0, .int 0, .int 0, .long 0, .long 0, .int 0, .null, .null, .null, .null, .null, .null, .null, .null, .null, .null, .null, .null, .null, .null, .null, .null, .null, .null, .null, .null, .null, .null, .null, .int 0, .null, .int 0, .int 0, .int 0, .int 0, .int 0, .int 0, .null]) wu_Mod t_Mod t_Mod_ok wc_Law_18 wn_Mod wz_Mod rfl hfs_Mod (by decide) (by decide) d_Law_law_28 (fun z1 => ?_)
  refine zx_perm List.perm_append_comm ?_
  refine zx_eq (ws' := (cO z1 11 [.int 0, .int 0, .int 0, .long 0, .long 0, .int 0, .null, .null, .null, .null, .null, .null, .null, .null, .null, .null, .null, .null, .null, .null, .null, .null, .null, .null, .null, .null, .null, .null, .null, .int 0, .null, .int 0, .int 0, .int 0, .int 0, .int 0, .int 0, .null] :: ([cO z0 0 [.ref (v0 0), .ref (v0 7), .ref (v0 8), .int (nI m), .ref (v0 1), .ref (v0 2), .int 0, .int (-1), .int (-1), .int (-1), .int 0]] ++ ([cO (v0 0) 2 [.long k0, .long k1, .long dv.1, .long dv.2.1, .long dv.2.2.1, .long dv.2.2.2], cI K (v0 1) 5 (fun _ => 0), cO (v0 2) 10 [.ref (v0 3)], cI K (v0 3) 16 (fun _ => 0), cO (v0 4) 4 [.int (nI m), .ref (v0 5), .ref (v0 6)], cI K (v0 5) n fst, cI K (v0 6) n stp, cR KB (v0 7) B (rAd aB B), cR KS (v0 8) n (rAd aS n)] ++ (bLs K (v0 4) m n aB (fun _ => iB0) (fun _ => iG0 fN sN m n) (List.range B) ++ sLs K aS (fun _ => iS0) (fun _ => iF0) (List.range n)))))) (lv' := [(1, .ref z0), (0, .ref bS)]) rfl rfl rfl ?_
  refine zx_dup (pc := 31) hF d_Law_law_31 rfl ?_
  refine zx_Sc (pc := 32) hF hX hbS hA hL 0 (by omega) ⟨1, rfl⟩ ⟨by decide, by decide⟩ (Nat.le_of_ble_eq_true rfl) rfl d_Law_law_32 d_Law_law_33 d_Law_law_34 ⟨by decide, by decide⟩ ?_
  refine zx_Sc (pc := 37) hF hX hbS hA hL 1 (by omega) ⟨1, rfl⟩ ⟨by decide, by decide⟩ (Nat.le_of_ble_eq_true rfl) rfl d_Law_law_37 d_Law_law_38 d_Law_law_39 ⟨by decide, by decide⟩ ?_
  refine zx_Sc (pc := 42) hF hX hbS hA hL 2 (by omega) ⟨1, rfl⟩ ⟨by decide, by decide⟩ (Nat.le_of_ble_eq_true rfl) rfl d_Law_law_42 d_Law_law_43 d_Law_law_44 ⟨by decide, by decide⟩ ?_
  refine zx_Sc (pc := 47) hF hX hbS hA hL 3 (by omega) ⟨1, rfl⟩ ⟨by decide, by decide⟩ (Nat.le_of_ble_eq_true rfl) rfl d_Law_law_47 d_Law_law_48 d_Law_law_49 ⟨by decide, by decide⟩ ?_
  refine zx_Iv (pc := 52) hF (As := [.int (lwx L xs 0), .int (lwx L xs 1), .int (lwx L xs 2), .int (lwx L xs 3)]) (rest := [.ref z1]) (w1 := fun u => [cO z1 11 [.int (nI B), .int (nI n), .int (nI m), .long k0, .long k1, .int 0, .ref (u 0), .ref (u 1), .ref (u 2), .ref (u 3), .ref (u 4), .ref (u 5), .ref (u 6), .ref (u 7), .ref (u 8), .ref (u 9), .ref (u 10), .ref (u 11), .ref (u 12), .ref (u 13), .ref (u 14), .ref (u 15), .ref (u 16), .ref (u 17), .ref (u 18), .ref (u 19), .ref (u 20), .ref (u 21), .ref (u 22), .int 0, .ref (u 23), .int (-1), .int 0, .int (-1), .int (-1), .int 0, .int 0, .ref (u 24)]]) (wn := fun u => [cJ K (u 0) 4 wd, cI K (u 1) 8 fst, cI K (u 2) 8 stp, cI K (u 3) 101 (fun _ => 0), cI K (u 4) 101 (fun _ => 0), cZ K (u 5) 4 (f_fill B 0 1 (fun _ => 0)), cI K (u 6) 4 (f_fill B 0 65530 (fun _ => 0)), cI K (u 7) 4 (fun _ => 0), cZ K (u 8) 32 (fun _ => 0), cI K (u 9) 32 (fun _ => 0), cZ K (u 10) 32 (fun _ => 0), cI K (u 11) 32 (fun _ => 0), cI K (u 12) 32 (fun _ => 0), cI K (u 13) 32 (fun _ => 0), cI K (u 14) 32 (fun _ => 0), cI K (u 15) 32 (fun _ => 0), cZ K (u 16) 8 (fun _ => 0), cI K (u 17) 8 (fun _ => 0), cZ K (u 18) 80 (fun _ => 0), cI K (u 19) 80 (fun _ => 0), cI K (u 20) 80 (fun _ => 0), cI K (u 21) 80 (fun _ => 0), cI K (u 22) 80 (fun _ => 0), cI K (u 23) 5 (fun _ => 0), cI K (u 24) 5 (fun _ => 0)]) (fun sz => N_Mod_init l D K (zM2 KB KS) z1 (lwx L xs 0) (lwx L xs 1) (lwx L xs 2) (lwx L xs 3) B n Z0 hk0 hk1 hm hg.1 hg.2 hwd ⟨hB, b2⟩ ⟨hn, n2⟩ ⟨hZ, y1, y2⟩ sz) [0] rfl (by decide) (as := [z1]) (fun _ => rfl) rfl (ci_Law_20 hF.2.2.2.2.1 rfl rfl ⟨by decide, by decide⟩) rfl rfl (Nat.le_of_ble_eq_true rfl) d_Law_law_52 ⟨by decide, by decide⟩ (fun v => ?_)
  refine zx_astore_n (pc := 55) (lv' := [(2, .ref z1), (1, .ref z0), (0, .ref bS)]) hF d_Law_law_55 rfl (by omega) rfl ?_
  refine zx_iconst (pc := 56) (v := 4) hF d_Law_law_56 rfl ?_
  refine zx_istore_n (pc := 57) (lv' := [(3, .int 4), (2, .ref z1), (1, .ref z0), (0, .ref bS)]) hF d_Law_law_57 rfl (by omega) rfl ?_
  refine zx_perm (ws' := ([cO z1 11 [.int (nI B), .int (nI n), .int (nI m), .long k0, .long k1, .int 0, .ref (v 0), .ref (v 1), .ref (v 2), .ref (v 3), .ref (v 4), .ref (v 5), .ref (v 6), .ref (v 7), .ref (v 8), .ref (v 9), .ref (v 10), .ref (v 11), .ref (v 12), .ref (v 13), .ref (v 14), .ref (v 15), .ref (v 16), .ref (v 17), .ref (v 18), .ref (v 19), .ref (v 20), .ref (v 21), .ref (v 22), .int 0, .ref (v 23), .int (-1), .int 0, .int (-1), .int (-1), .int 0, .int 0, .ref (v 24)]] ++ [cJ K (v 0) 4 wd, cI K (v 1) 8 fst, cI K (v 2) 8 stp, cI K (v 3) 101 (fun _ => 0), cI K (v 4) 101 (fun _ => 0), cZ K (v 5) 4 (f_fill B 0 1 (fun _ => 0)), cI K (v 6) 4 (f_fill B 0 65530 (fun _ => 0)), cI K (v 7) 4 (fun _ => 0), cZ K (v 8) 32 (fun _ => 0), cI K (v 9) 32 (fun _ => 0), cZ K (v 10) 32 (fun _ => 0), cI K (v 11) 32 (fun _ => 0), cI K (v 12) 32 (fun _ => 0), cI K (v 13) 32 (fun _ => 0), cI K (v 14) 32 (fun _ => 0), cI K (v 15) 32 (fun _ => 0), cZ K (v 16) 8 (fun _ => 0), cI K (v 17) 8 (fun _ => 0), cZ K (v 18) 80 (fun _ => 0), cI K (v 19) 80 (fun _ => 0), cI K (v 20) 80 (fun _ => 0), cI K (v 21) 80 (fun _ => 0), cI K (v 22) 80 (fun _ => 0), cI K (v 23) 5 (fun _ => 0), cI K (v 24) 5 (fun _ => 0)]) ++ ([cO z0 0 [.ref (v0 0), .ref (v0 7), .ref (v0 8), .int (nI m), .ref (v0 1), .ref (v0 2), .int 0, .int (-1), .int (-1), .int (-1), .int 0]] ++ ([cO (v0 0) 2 [.long k0, .long k1, .long dv.1, .long dv.2.1, .long dv.2.2.1, .long dv.2.2.2], cI K (v0 1) 5 (fun _ => 0), cO (v0 2) 10 [.ref (v0 3)], cI K (v0 3) 16 (fun _ => 0), cO (v0 4) 4 [.int (nI m), .ref (v0 5), .ref (v0 6)], cI K (v0 5) n fst, cI K (v0 6) n stp, cR KB (v0 7) B (rAd aB B), cR KS (v0 8) n (rAd aS n)] ++ (bLs K (v0 4) m n aB (fun _ => iB0) (fun _ => iG0 fN sN m n) (List.range B) ++ sLs K aS (fun _ => iS0) (fun _ => iF0) (List.range n))))) ?_ ?_
  · exact List.Perm.cons _ List.perm_append_comm
  refine zx_eq (ws' := mC K (lwAd z1 z0 v v0) B n m k0 k1 fst stp iU (iMA B) wd ++ (cC K KB KS (lwAd z1 z0 v v0) aB aS B n m k0 k1 fst stp iX (fun _ _ => 0) dv ++ (bLs K (lwAd z1 z0 v v0 31) m n aB (fun _ => iB0) (fun _ => iG0 fN sN m n) (List.range B) ++ sLs K aS (fun _ => iS0) (fun _ => iF0) (List.range n)))) (lv' := [(3, .int (nI 4)), (2, .ref (lwAd z1 z0 v v0 0)), (1, .ref (lwAd z1 z0 v v0 26)), (0, .ref bS)]) rfl rfl rfl ?_
  exact law_loop hF hX hbS hA hL ⟨by decide, by decide⟩ ⟨by omega, b2⟩ ⟨by omega, n2⟩ hm7 hLN0 hsur (fun _ _ _ _ _ _ _ _ _ _ _ => kE _ _) L 4 (by omega) (by omega) iU (iMA B) wd iX (fun _ _ => 0) dv (fun _ => iB0) (fun _ => iG0 fN sN m n) (fun _ => iS0) (fun _ => iF0) (rA_init ⟨by omega, n2⟩)
/-- YOUR PART: from the entry, for every script of at most 3076 ints, the law comes to its end with true -/
theorem whole_start {p : Program} {e : Env} {s : State} {m : MethodId} {below : List Frame} {meth : Method} {c : Code} (l : Launch) {b L : Nat} {xs : Nat → Int32} (hL : L ≤ 3076) (C0 : lw_At p s m meth c b L xs) : W p l e room_1 s m #[Value.ref b] below meth c s.heap [] 0 0 (lw_Z below #[Value.ref b] s) (entryFrame m ([Value.ref b] : List Value).toArray 4) := by
  obtain ⟨h1, h2, h3, h4, h5, hts, hX, hb, hlk, -⟩ := C0
  have htz : ∀ w ∈ zAll, w.before #[Value.ref b] s = true := fun w h => hts w (List.mem_filter.mp h).1
  obtain ⟨D, K, hK⟩ := zK0 htz
  have hF : zF p s m #[Value.ref b] c code 4 R_Law D K [] (fun q => s.heap.size ≤ q) := ⟨h1, h2, h4, h5, htz, hK, fun q h => h⟩
  have hE : ePS s := ⟨va_Nw.of rfl (hts (.methodLinkNest R_PS 15 y_Wir_init "PacketSpreader") (List.mem_append_right _ (by decide +kernel))), va_Nw.of rfl (hts (.methodLinkNest R_PS 58 y_Srv_init "PacketSpreader") (List.mem_append_right _ (by decide +kernel))), va_Nw.of rfl (hts (.methodLinkNest R_Bal 11 y_Ent_init "PacketSpreader") (List.mem_append_right _ (by decide +kernel))), va_AO.of (hts (.arrayOver (.object "PacketSpreader$Server")) (List.mem_append_right _ (by decide +kernel))), va_AO.of (hts (.arrayOver (.object "PacketSpreader$Balancer")) (List.mem_append_right _ (by decide +kernel)))⟩
  have hl := lv_entry [Value.ref b] (n := 4) (Nat.le_of_ble_eq_true rfl)
  rw [lg_entry_eq]
  refine whole_top (A := fun q => s.heap.size ≤ q) hF hE hX hb (Nat.not_le.mpr hb) hL ?_ s.heap [] _ hl (fun k q h => absurd h (by simp)) ⟨fun i j p q h => absurd h (by simp), fun k q h => absurd h (by simp)⟩ va_S.rf
  intro ws lv
  refine zx_iconst (pc := 836) (v := 1) hF d_Law_law_836 rfl ?_
  intro H locs ls _ _ _ hS
  exact va_forget (fun q hq => hS.2.2 q hq) (W.widen (by omega) (by omega) (lw_ret h1 h2 h3 hlk d_Law_law_837))
set_option maxHeartbeats 4000000 in
theorem lw_walk (l : Launch) (b : Addr) (xs : List Int32) : MetFree l x (headSpec (Jvm.Cond.code x code maxLocals ret :: tables_1) room_1) (lw_P b xs) (fun _ _ _ _ _ => True) lw_Q := by
  refine MetFree.of_bodyS (code := code) (maxLocals := maxLocals) (ret := ret) (by decide) ?_ ?_
  · intro args s m h hn
    obtain ⟨meth, c, h1, h2, h3, h4, h5, h6, -, -⟩ := Cond.code_spec hn (atoms_spec (ws := Jvm.Cond.code x code maxLocals ret :: tables_1) h _ List.mem_cons_self)
    exact ⟨meth, c, h1, h2, h3, h4, h5, h6⟩
  · intro p e s m args below meth c s₁ B hml0 hP _
    obtain ⟨rfl, hx, hbd, hgv⟩ := hP
    obtain ⟨scr, harrAt, hlist, hof, hsmall⟩ := hx
    obtain ⟨hcb, hkn, -, -⟩ := State.arrayAt?_spec harrAt
    have hown : s.vm.findClass R_law = some m.cls := findClass_of_methodNamed B.named
    have hts0 : ∀ c ∈ (Jvm.Cond.code x code maxLocals ret :: tables_1), c.before #[Value.ref b] s = true := atoms_spec (ws := Jvm.Cond.code x code maxLocals ret :: tables_1) B.pre
    have hts : ∀ w ∈ lw_tbl, w.before #[Value.ref b] s = true := k2_hts_sels lw_privs (fun w hw => hts0 w (List.mem_cons_of_mem _ hw)) lw_privs_ok
    have hml : c.maxLocals = 4 := B.maxLocals_eq (hts0 _ List.mem_cons_self)
    have X₀ : Stand p l e room_1 s m #[Value.ref b] below meth c s₁ [] 0 0 := Stand.of_body B
    have hh0 : s₁.heap = s.heap := by rw [B.state]; rfl
    have hsz : scr.slots.size = xs.length := by rw [← Array.length_toList, hlist, List.length_map]
    have hval : ∀ j : Nat, j < xs.length → scr.slots[j]? = some (.int (xs.getD j 0)) := fun j hj => by
      rw [← Array.getElem?_toList, hlist]
      simp [hj]
    have hbl : b < s.heap.size := (Array.getElem?_eq_some_iff.mp hcb).1
    have hX : va_X b xs.length (fun j => xs.getD j 0) s s.heap := ⟨scr, hcb, hof, hkn, hsz, hval⟩
    have K : W p l e room_1 s m #[Value.ref b] below meth c s₁.heap [] 0 0 (lw_Z below #[Value.ref b] s) (entryFrame m ([Value.ref b] : List Value).toArray 4) := by
      rw [hh0]
      exact whole_start l hbd ⟨B.exec, B.bytes, B.returns, hml, hown, hts, hX, hbl, B.notSynchronized, hgv⟩
    obtain ⟨t, a1, o, b1, b2, b3⟩ := K s₁ rfl X₀
    exact ⟨t, o, a1, b1, b2, b3⟩
theorem lw_pre_spec {args : Array Value} {s : State} (h : (Jvm.Cond.and given_1 narrow_1).before args s = true) (hr : rest_1_c.before args s = true) : ∃ (b : Addr) (xs : List Int32), lw_P b xs args s := by
  have hs := flat_of_before _ h
  have hq := flat_of_before _ hr
  have hc : (Cond.count 1).before args s = true := hs _ (by decide +kernel)
  have harr : (Cond.arrayOf (.arg 0) .int).before args s = true := hs _ (by decide +kernel)
  have hle : (Cond.le (.length (.arg 0)) (.int 3076)).before args s = true := hs _ (by decide +kernel)
  have hlen : (Cond.isInt (.length (.arg 0))).before args s = true := hq _ (by decide +kernel)
  have hall : (Cond.all (.arg 0) (.isInt (.elem (.arg 0) (.index 0)))).before args s = true := hq _ (by decide +kernel)
  obtain ⟨b, xs, hb, hx⟩ := State.ints_of_pre rfl harr hlen hall
  have hsm : xs.length < 2 ^ 31 := hx.choose_spec.2.2.2
  have hev : (Term.length (.arg 0)).eval args s none [] s = some (.int xs.length.toInt32) := hx.length_eval hb
  have hv := Cond.le_ints hev (show (Term.int 3076).eval args s none [] s = some (.int 3076) from rfl)
  have hd : xs.length.toInt32 ≤ 3076 := by
    simpa [Cond.before, Cond.holds, hv] using hle
  have hN : xs.length ≤ 3076 := (Int32.ofNat_le_ofNat hsm (by decide)).mp (show Int32.ofNat xs.length ≤ Int32.ofNat 3076 from hd)
  exact ⟨b, xs, Cond.one_arg hc (show args[0]? = some (.ref b) from hb), hx, hN, h⟩
theorem lw_comes (l : Launch) : Comes l x (Jvm.Cond.code x code maxLocals ret :: tables_1) room_1 (fun tb e args s => Calls_1 tb e args s ∧ rest_1 tb e args s ∧ Pre_1 tb e args s)
    (fun _ _ args s o t => lw_Q args s o t) := by
  intro p e ha hc hk s m args below hf hfit hheap happ hpre
  obtain ⟨b, xs, hP⟩ := lw_pre_spec hpre.2.2 hpre.2.1
  obtain ⟨k, o, h1, h2, h3, hQ⟩ := lw_walk l b xs p e ha hc hk s m args below hf ((Spec.applies_iff_loose hf).mp happ).1 hP trivial
  exact ⟨k, o, h1, h2, h3, hQ⟩
theorem lw_frame {s t : State} {o : Outcome} {args : Array Value} (h : Framed s o t [] 600000 7302250) :
    Framed s o t (fieldLocs frame_1_writes args s ++ arrayLocs frame_1_arrays args s ++ staticLocs frame_1_statics s) 600000 7302250 := h
theorem lw_limb (L : Cond) (hL : ∀ (args : Array Value) (s t : State), L.after args s (.returned (some (.int 1))) t = true) :
    ArmFor flags0 classFile x code maxLocals ret World_1 tables_1 room_1 Calls_1 rest_1 Pre_1
      (fun tb e a s o t => postC L tb e a s o t ∧ Framed s o t (fieldLocs frame_1_writes a s ++ arrayLocs frame_1_arrays a s ++ staticLocs frame_1_statics s) 600000 7302250) := by
  intro l _ _ _ p e ha hc hk s m args below hf hfit hheap happ hpre
  obtain ⟨k, o, h1, h2, h3, rfl, hF⟩ := lw_comes l p e ha hc hk s m args below hf hfit hheap happ hpre
  exact ⟨k, _, h1, h2, h3, hL args s _, lw_frame hF⟩
theorem i_vc : Claimed_1_1 ∧ Claimed_1_2 := ⟨lw_limb limb_1_1 (fun args s t => by simp [limb_1_1, Cond.after, Cond.holds, Cond.value]), lw_limb limb_1_2 (fun args s t => Cond.after_iff.mpr (by
  first | (rw [show limb_1_2 = Cond.eq .result (.int 1) from rfl, Cond.eq_ints (x := 1) (y := 1) rfl rfl]; simp; done) | (simp [limb_1_2, Cond.value, Term.eval]; done)))⟩
