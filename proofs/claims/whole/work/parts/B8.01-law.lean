theorem hfs_PS : ∀ j, j < 11 → defaultValue (t_PS j) = vp_V [.null, .null, .null, .int 0, .null, .null, .int 0, .int 0, .int 0, .int 0, .int 0] j := fun j hj => match j, hj with | 0, _ => rfl | 1, _ => rfl | 2, _ => rfl | 3, _ => rfl | 4, _ => rfl | 5, _ => rfl | 6, _ => rfl | 7, _ => rfl | 8, _ => rfl | 9, _ => rfl | 10, _ => rfl | _ + 11, h => absurd h (by omega)
theorem hfs_Mod : ∀ j, j < 38 → defaultValue (t_Mod j) = vp_V [.int 0, .int 0, .int 0, .long 0, .long 0, .int 0, .null, .null, .null, .null, .null, .null, .null, .null, .null, .null, .null, .null, .null, .null, .null, .null, .null, .null, .null, .null, .null, .null, .null, .int 0, .null, .int 0, .int 0, .int 0, .int 0, .int 0, .int 0, .null] j := fun j hj => match j, hj with | 0, _ => rfl | 1, _ => rfl | 2, _ => rfl | 3, _ => rfl | 4, _ => rfl | 5, _ => rfl | 6, _ => rfl | 7, _ => rfl | 8, _ => rfl | 9, _ => rfl | 10, _ => rfl | 11, _ => rfl | 12, _ => rfl | 13, _ => rfl | 14, _ => rfl | 15, _ => rfl | 16, _ => rfl | 17, _ => rfl | 18, _ => rfl | 19, _ => rfl | 20, _ => rfl | 21, _ => rfl | 22, _ => rfl | 23, _ => rfl | 24, _ => rfl | 25, _ => rfl | 26, _ => rfl | 27, _ => rfl | 28, _ => rfl | 29, _ => rfl | 30, _ => rfl | 31, _ => rfl | 32, _ => rfl | 33, _ => rfl | 34, _ => rfl | 35, _ => rfl | 36, _ => rfl | 37, _ => rfl | _ + 38, h => absurd h (by omega)
theorem ci_Law_15 {R : Room} {s : State} {args : Array Value} {rm : Room} {mc ms : Nat} (ht : ∀ w ∈ zAll, w.before args s = true) (h1 : rm.cells = mc) (h2 : rm.slots = ms) (hR : rm.frames + 1 ≤ R.frames ∧ 8 + (9 + 11) + rm.locals ≤ R.locals) : CallB R s args R_Law 15 y_PS_init b_PS_init 9 none (zT y_PS_init b_PS_init 9 none) rm mc ms 4 ∧ y_PS_init.name = "<init>" ∧ (Cond.instanceMethod y_PS_init).before args s = true := ⟨zcB ht wb_PS_init (ht _ wm_Law_15) wz_PS h1 h2 ⟨by decide, by decide, by decide +kernel⟩ hR, rfl, ht _ wi_PS_init⟩
theorem ci_Law_20 {R : Room} {s : State} {args : Array Value} {rm : Room} {mc ms : Nat} (ht : ∀ w ∈ zAll, w.before args s = true) (h1 : rm.cells = mc) (h2 : rm.slots = ms) (hR : rm.frames + 1 ≤ R.frames ∧ 8 + (8 + 11) + rm.locals ≤ R.locals) : CallB R s args R_Law 20 y_Mod_init b_Mod_init 8 none (zT y_Mod_init b_Mod_init 8 none) rm mc ms 4 ∧ y_Mod_init.name = "<init>" ∧ (Cond.instanceMethod y_Mod_init).before args s = true := ⟨zcB ht wb_Mod_init (ht _ wm_Law_20) wz_Mod h1 h2 ⟨by decide, by decide, by decide +kernel⟩ hR, rfl, ht _ wi_Mod_init⟩
theorem cw_Law_9 {R : Room} {s : State} {args : Array Value} {rm : Room} (ht : ∀ w ∈ zAll, w.before args s = true) (h1 : rm.cells = 0) (h2 : rm.slots = 0) (hR : rm.frames + 1 ≤ R.frames ∧ 8 + (2 + 11) + rm.locals ≤ R.locals) : CallB R s args R_Law 9 y_Law_cell b_Law_cell 2 (some .int) (zT y_Law_cell b_Law_cell 2 (some .int)) rm 0 0 2 ∧ (Cond.static y_Law_cell).before args s = true := ⟨zcB ht wb_Law_cell (ht _ wm_Law_9) wz_Law h1 h2 ⟨by decide, by decide, by decide +kernel⟩ hR, ht _ wt_Law_cell⟩
section ZL
variable {p : Program} {l : Launch} {e : Env} {R : Room} {s : State} {m : MethodId} {args : Array Value} {below : List Frame} {meth : Method} {c : Code} {cells slots : Nat} {Q : State → Prop}
variable {cc : ByteArray} {nL pc : Nat} {rest : List Value} {D : va_G} {K : Nat → ClassId} {M : List (ClassId × FieldType)} {A : Nat → Prop} {ws : va_W} {lv : List (Nat × Value)} {own : String}
/-- the script stands in the heap -/
def lwC (D : va_G) (K : Nat → ClassId) (M : List (ClassId × FieldType)) (b L : Nat) (xs : Nat → Int32) (sz : Nat) (U : State) : Prop := zA D K M [] sz U ∧ va_X b L xs U U.heap ∧ b < U.heap.size
def lwx (L : Nat) (xs : Nat → Int32) (j : Nat) : Int32 := if j < L then xs j else 0
theorem lw_cell (l : Launch) (D : va_G) (K : Nat → ClassId) (M : List (ClassId × FieldType)) (b L : Nat) (xs : Nat → Int32) (hL : L ≤ 3076) (j : Nat) (hj : j < 4) (sz : Nat) : Met l y_Law_cell (zT y_Law_cell b_Law_cell 2 (some .int)) (zR 0 0) (va_Pc [.ref b, .int (nI j)] (lwC D K M b L xs sz)) (zQi D K M (lwx L xs j) [] (va_A [] sz)) 0 0 (va_A [] sz) := by
  refine Met.ofW (cc := b_Law_cell) (maxL := 2) (ret := some .int) (by decide) rfl ?_
  intro p e s m args below meth c s₁ B hml hv
  obtain ⟨rfl, ⟨hsz, hP, hK, hD0⟩, hX, hb⟩ := hv
  subst hsz
  have hts := atoms_spec (ws := zT y_Law_cell b_Law_cell 2 (some .int)) B.pre
  have hown : s.vm.findClass y_Law_cell.cls = some m.cls := findClass_of_methodNamed B.named
  have hl := lv_entry [Value.ref b, .int (nI j)] (n := 2) (Nat.le_of_ble_eq_true rfl)
  rw [lg_entry_eq]
  have hF : zF p s m [Value.ref b, .int (nI j)].toArray c b_Law_cell 2 R_Law D K M (va_A [] s.heap.size) := ⟨B.exec, B.bytes, hml, hown, fun w h => hts w (List.mem_cons_of_mem _ h), hK, fun q h => Or.inr h⟩
  have hA : ¬ va_A [] s.heap.size b := fun z => by
    rcases z with ⟨k, e, h⟩ | h
    · exact absurd h (by simp)
    · exact absurd hb (Nat.not_lt.mpr h)
  have body : zW p l e (zR 0 0) s m [Value.ref b, .int (nI j)].toArray below meth c D (va_A [] s.heap.size) 0 0 (MQ below (zQi D K M (lwx L xs j) [] (va_A [] s.heap.size)) [Value.ref b, .int (nI j)].toArray s 0 0 (va_A [] s.heap.size)) 2 [] (lv_args 0 [Value.ref b, .int (nI j)]) 0 [] := by
    refine zx_eq (ws' := []) (lv' := [(0, .ref b), (1, .int (nI j))]) rfl rfl rfl ?_
    refine zx_iload_n (pc := 0) hF d_Law_cell_0 rfl 1 rfl ?_
    refine zx_aload_n (pc := 1) hF d_Law_cell_1 rfl 0 rfl ?_
    refine zx_slen (pc := 2) hF hX hb hA d_Law_cell_2 ?_
    refine zx_icmp_ge (pc := 3) hF d_Law_cell_3 (tgt := 12) rfl (fun h => ?_) (fun h => ?_)
    · refine zx_iconst (pc := 12) (v := 0) hF d_Law_cell_12 rfl ?_
      exact zx_iret (pc := 13) hF B.returns B.notSynchronized (by unfold lwx; rw [if_neg (Nat.not_lt.mpr ((nI_leI (by omega) (by omega)).mp h))]) rfl d_Law_cell_13
    · have hlt : j < L := Nat.lt_of_not_le (fun z => h ((nI_leI (by omega) (by omega)).mpr z))
      refine zx_aload_n (pc := 6) hF d_Law_cell_6 rfl 0 rfl ?_
      refine zx_iload_n (pc := 7) hF d_Law_cell_7 rfl 1 rfl ?_
      refine zx_sld (pc := 8) hF hX hb hA hlt (by omega) d_Law_cell_8 ?_
      refine zx_goto (pc := 9) hF d_Law_cell_9 (tgt := 13) rfl ?_
      exact zx_iret (pc := 13) hF B.returns B.notSynchronized (by unfold lwx; rw [if_pos hlt]) rfl d_Law_cell_13
  exact body s.heap [] _ hl hP (hD0.self (sz := s.heap.size)) va_S.rf
theorem lw_blind {b L : Nat} {xs : Nat → Int32} {av : List Value} {sz : Nat} : FrameBlind (va_Pc av (lwC D K M b L xs sz)) := fun a U g mk q => by
  obtain ⟨q0, ⟨q1, qP, qK, qD⟩, qX, qb⟩ := q
  exact ⟨q0, ⟨q1, qP, va_K.moved (u := U) (U := U.calling g mk a) (Vm.Alike.refl U.vm) qK, qD⟩, va_X.moved (u := U) (U := U.calling g mk a) (Vm.Alike.refl U.vm) qX, qb⟩
theorem zx_Sc (hF : zF p s m args c cc nL R_Law D K M A) {b L : Nat} {xs : Nat → Int32} (hX : va_X b L xs s s.heap) (hb : b < s.heap.size) (hA : ¬ A b) (hL : L ≤ 3076) {jc : Int} (j : Nat) (hj : j < 4) (hlv : ∃ q : Nat, lv[q]? = some ((0 : Nat), Value.ref b)) (hR : 1 ≤ R.frames ∧ 21 ≤ R.locals) (hroom : (rest.map fun v => v.category).sum ≤ 8) (hjc : Int32.ofInt jc = nI j) (d0 : decode cc pc = .ok (.aload_n 0, 1)) (d1 : decode cc (pc + 1) = .ok (.iconst jc, 1)) (d2 : decode cc (pc + 1 + 1) = .ok (.invokestatic 9, 3)) (hf : cells ≤ R.cells ∧ slots ≤ R.slots) (k : zW p l e R s m args below meth c D A cells slots Q nL ws lv (pc + 5) (.int (lwx L xs j) :: rest)) : zW p l e R s m args below meth c D A cells slots Q nL ws lv pc rest := by
  obtain ⟨q, hq⟩ := hlv
  refine zx_aload_n (x := b) hF d0 rfl q hq ?_
  refine zx_iconst (v := nI j) hF d1 hjc ?_
  intro H locs ls h1 h2 h3 h4
  obtain ⟨hPc, hDc⟩ := zsubP (wc := []) h2 h3 [] rfl List.nodup_nil
  have hFc := zfree (wc := []) h3 h4 hF.2.2.2.2.2.2 [] rfl
  have hKc := hF.2.2.2.2.2.1
  refine va_calli (va_runS (As := [.ref b, .int (nI j)]) (rest := rest) ⟨hF.1, hF.2.1, hF.2.2.1, hF.2.2.2.1, hF.2.2.2.2.1⟩ (lw_cell l D K M b L xs hL j hj H.size) (cw_Law_9 hF.2.2.2.2.1 rfl rfl ⟨by show 0 + 1 ≤ _; omega, by show 8 + (2 + 11) + 0 ≤ _; omega⟩) ⟨lw_blind, fun U hU hW => ⟨rfl, ⟨by rw [hU], by rw [hU]; exact hPc, va_K.moved hW.alike hKc, hDc.weaken (fun _ _ _ _ => trivial)⟩, by rw [hU]; exact va_X.moved hW.alike (va_X.kept hX (h4.2.1 b hb hA)), by rw [hU]; exact Nat.lt_of_lt_of_le hb h4.1⟩⟩ rfl rfl h1.1 rfl (lv_room hroom) d2 ⟨hf.1, hf.2⟩) h4 (fun q _ h => hFc q h) hFc (fun r9 u t H1 locs1 ht hvm hp hB hz hk hS => ?_)
  subst hp
  obtain ⟨hP1, hK1, hD1⟩ := hB
  rw [ht] at hP1
  obtain ⟨hP2, hD2⟩ := zjoin (wn := []) (w1 := []) (wc := []) h2 h3 [] rfl List.nodup_nil rfl hk hFc hP1 hD1
  rw [List.append_nil, zset_nil] at hP2 hD2
  exact k H1 locs1 ls h1 hP2 hD2 hS
end ZL
theorem N_PS_init (l : Launch) (D : va_G) (K : Nat → ClassId) (ps0 : Nat) (xb : Int32) (xs : Int32) (xz : Int32) (ky : Int32) (B : Nat) (n : Nat) (Z0 : Nat) (fN : Nat → Nat) (sN : Nat → Nat) {k0 k1 : Int64} {m : Nat} {fst stp : Nat → Int32} {dv : f_4} (hk0 : Int32.toInt64 ky = k0) (hk1 : Int32.toInt64 ky ^^^ 1084818905618843912 = k1) (hm : f_pf (101 - Z0) Z0 = m) (hf : (f_lst k0 k1 m n 0 (fun _ => 0, fun _ => 0, f_z4)).1 = fst) (hs : (f_lst k0 k1 m n 0 (fun _ => 0, fun _ => 0, f_z4)).2.1 = stp) (hd : (f_lst k0 k1 m n 0 (fun _ => 0, fun _ => 0, f_z4)).2.2 = dv) (hB : f_clamp xb 1 4 = nI B ∧ B ≤ 4) (hS : f_clamp xs 1 8 = nI n ∧ n ≤ 8) (hZ : f_clamp xz 7 101 = nI Z0 ∧ 7 ≤ Z0 ∧ Z0 ≤ 101) (hL : f_LN fst stp fN sN m n) (sz : Nat) : zMx l y_PS_init (zT y_PS_init b_PS_init 9 none) (zRc 5 113 145 1787) 145 1787 D K [] ePS [.ref ps0, .int xb, .int xs, .int xz, .int ky] [cO ps0 0 [.null, .null, .null, .int 0, .null, .null, .int 0, .int 0, .int 0, .int 0, .int 0]] sz (fun A => va_Qv (fun (_ : iS) => True) (fun u => zB D K (zM2 u.2.1.1 u.2.1.2) A ([cO ps0 0 [.ref (u.1 0), .ref (u.1 7), .ref (u.1 8), .int (nI m), .ref (u.1 1), .ref (u.1 2), .int 0, .int (-1), .int (-1), .int (-1), .int 0]] ++ ([cO (u.1 0) 2 [.long k0, .long k1, .long dv.1, .long dv.2.1, .long dv.2.2.1, .long dv.2.2.2], cI K (u.1 1) 5 (fun _ => 0), cO (u.1 2) 10 [.ref (u.1 3)], cI K (u.1 3) 16 (fun _ => 0), cO (u.1 4) 4 [.int (nI m), .ref (u.1 5), .ref (u.1 6)], cI K (u.1 5) n fst, cI K (u.1 6) n stp, cR u.2.1.1 (u.1 7) B (rAd u.2.2.1 B), cR u.2.1.2 (u.1 8) n (rAd u.2.2.2 n)] ++ (bLs K (u.1 4) m n u.2.2.1 (fun _ => iB0) (fun _ => iG0 fN sN m n) (List.range B) ++ sLs K u.2.2.2 (fun _ => iS0) (fun _ => iF0) (List.range n))))) A) := by
  subst hk0 hk1 hm hf hs hd
  exact M_PS_init l D K ps0 xb xs xz ky B n Z0 fN sN hB hS hZ hL sz
theorem N_Mod_init (l : Launch) (D : va_G) (K : Nat → ClassId) (M : List (ClassId × FieldType)) (m0 : Nat) (xb : Int32) (xs : Int32) (xz : Int32) (ky : Int32) (B : Nat) (S : Nat) (Z0 : Nat) {k0 k1 : Int64} {m : Nat} {fst stp : Nat → Int32} {wd : Nat → Int64} (hk0 : Int32.toInt64 ky = k0) (hk1 : Int32.toInt64 ky ^^^ 1084818905618843912 = k1) (hm : f_pf (101 - Z0) Z0 = m) (hf : (g_lst k0 k1 m S 0 (fun _ => 0, fun _ => 0, fun _ => 0)).1 = fst) (hs : (g_lst k0 k1 m S 0 (fun _ => 0, fun _ => 0, fun _ => 0)).2.1 = stp) (hd : (g_lst k0 k1 m S 0 (fun _ => 0, fun _ => 0, fun _ => 0)).2.2 = wd) (hB : f_within xb 1 4 = nI B ∧ B ≤ 4) (hS : f_within xs 1 8 = nI S ∧ S ≤ 8) (hZ : f_within xz 7 101 = nI Z0 ∧ 7 ≤ Z0 ∧ Z0 ≤ 101) (sz : Nat) : zM l y_Mod_init (zT y_Mod_init b_Mod_init 8 none) (zRc 5 115 25 916) 25 916 D K M [.ref m0, .int xb, .int xs, .int xz, .int ky] [cO m0 11 [.int 0, .int 0, .int 0, .long 0, .long 0, .int 0, .null, .null, .null, .null, .null, .null, .null, .null, .null, .null, .null, .null, .null, .null, .null, .null, .null, .null, .null, .null, .null, .null, .null, .int 0, .null, .int 0, .int 0, .int 0, .int 0, .int 0, .int 0, .null]] sz (zQn D K M (fun u => [cO m0 11 [.int (nI B), .int (nI S), .int (nI m), .long k0, .long k1, .int 0, .ref (u 0), .ref (u 1), .ref (u 2), .ref (u 3), .ref (u 4), .ref (u 5), .ref (u 6), .ref (u 7), .ref (u 8), .ref (u 9), .ref (u 10), .ref (u 11), .ref (u 12), .ref (u 13), .ref (u 14), .ref (u 15), .ref (u 16), .ref (u 17), .ref (u 18), .ref (u 19), .ref (u 20), .ref (u 21), .ref (u 22), .int 0, .ref (u 23), .int (-1), .int 0, .int (-1), .int (-1), .int 0, .int 0, .ref (u 24)]] ++ [cJ K (u 0) 4 wd, cI K (u 1) 8 fst, cI K (u 2) 8 stp, cI K (u 3) 101 (fun _ => 0), cI K (u 4) 101 (fun _ => 0), cZ K (u 5) 4 (f_fill B 0 1 (fun _ => 0)), cI K (u 6) 4 (f_fill B 0 65530 (fun _ => 0)), cI K (u 7) 4 (fun _ => 0), cZ K (u 8) 32 (fun _ => 0), cI K (u 9) 32 (fun _ => 0), cZ K (u 10) 32 (fun _ => 0), cI K (u 11) 32 (fun _ => 0), cI K (u 12) 32 (fun _ => 0), cI K (u 13) 32 (fun _ => 0), cI K (u 14) 32 (fun _ => 0), cI K (u 15) 32 (fun _ => 0), cZ K (u 16) 8 (fun _ => 0), cI K (u 17) 8 (fun _ => 0), cZ K (u 18) 80 (fun _ => 0), cI K (u 19) 80 (fun _ => 0), cI K (u 20) 80 (fun _ => 0), cI K (u 21) 80 (fun _ => 0), cI K (u 22) 80 (fun _ => 0), cI K (u 23) 5 (fun _ => 0), cI K (u 24) 5 (fun _ => 0)])) := by
  subst hk0 hk1 hm hf hs hd
  exact M_Mod_init l D K M m0 xb xs xz ky B S Z0 hB hS hZ sz
