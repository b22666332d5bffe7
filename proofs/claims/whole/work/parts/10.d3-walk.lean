set_option maxRecDepth 20000 in
theorem M_Slo_releaseAll (l : Launch) (D : va_G) (K : Nat → ClassId) (M : List (ClassId × FieldType)) (a0 : Nat) (a1 : Nat) (a2 : Nat) (a3 : Nat) (n : Nat) (src : Nat → Int32) (prt : Nat → Int32) (use : Nat → Int32) (cnt : Int32) (hn : n < 2 ^ 31) (sz : Nat) : zM l y_Slo_releaseAll (zT y_Slo_releaseAll b_Slo_releaseAll 2 none) (zR 1 21) 0 0 D K M [.ref a0] [cO a0 6 [.ref a1, .ref a2, .ref a3, .int cnt], cI K a1 n src, cI K a2 n prt, cZ K a3 n use] sz (zQv D K M [cO a0 6 [.ref a1, .ref a2, .ref a3, .int (f_all n 0 use cnt).2], cI K a1 n src, cI K a2 n prt, cZ K a3 n (f_all n 0 use cnt).1]) := by
  refine zx_head (by decide) (Nat.le_of_ble_eq_true rfl) ?_
  intro _ _ _ _ _ _ _ _ _ hF hr hlk hnm
  refine zx_iconst (pc := 0) hF d_Slo_releaseAll_0 k_i0 ?_
  refine zx_istore_n (pc := 1) hF (lv' := [(1, .int 0), (0, .ref a0)]) d_Slo_releaseAll_1 rfl (by decide) rfl ?_
  refine zx_lv [1, 0] (lv' := [(0, .ref a0), (1, .int 0)]) rfl ?_
  refine zx_loop (pc := 2) (σ := Nat × (Nat → Int32) × Int32) (fun k zv => (zv.1 + k = n) ∧ (f_all k zv.1 zv.2.1 zv.2.2 = f_all n 0 use cnt)) (fun zv => [cO a0 6 [.ref a1, .ref a2, .ref a3, .int zv.2.2], cI K a1 n src, cI K a2 n prt, cZ K a3 n zv.2.1]) (fun zv => [(0, .ref a0), (1, .int (nI zv.1))]) n (0, use, cnt) ⟨by first | omega | (dsimp only; omega) | dsimp only, rfl⟩ rfl rfl ?_
  intro k zv hI ih
  obtain ⟨j, use', cnt'⟩ := zv
  obtain ⟨hk, hX⟩ := hI
  replace hk : j + k = n := hk
  replace hX : f_all k j use' cnt' = f_all n 0 use cnt := hX
  refine zx_eq (ws' := [cO a0 6 [.ref a1, .ref a2, .ref a3, .int cnt'], cI K a1 n src, cI K a2 n prt, cZ K a3 n use']) (lv' := [(0, .ref a0), (1, .int (nI j))]) rfl rfl rfl ?_
  refine zx_iload_n (pc := 2) hF d_Slo_releaseAll_2 rfl 1 rfl ?_
  refine zx_aload_n (pc := 3) hF d_Slo_releaseAll_3 rfl 0 rfl ?_
  refine zg_Slo_18 (pc := 4) hF 0 rfl rfl d_Slo_releaseAll_4 ?_
  refine zx_alen (pc := 7) hF 3 1 rfl rfl (v := nI n) rfl d_Slo_releaseAll_7 ?_
  refine zx_icmp_ge (pc := 8) hF d_Slo_releaseAll_8 (tgt := 22) rfl (fun h8 => ?_) (fun h8 => ?_)
  · replace h8 : n ≤ j := (nI_leI (a := n) (b := j) (by omega) (by omega)).mp h8
    exact zx_vret (pc := 22) hF hr hlk (by obtain rfl : k = 0 := (by omega); rw [← hX]; rfl) d_Slo_releaseAll_22
  · replace h8 : ¬ n ≤ j := fun z => h8 ((nI_leI (a := n) (b := j) (by omega) (by omega)).mpr z)
    refine zx_aload_n (pc := 11) hF d_Slo_releaseAll_11 rfl 0 rfl ?_
    refine zx_iload_n (pc := 12) hF d_Slo_releaseAll_12 rfl 1 rfl ?_
    refine zx_Vv (pc := 13) hF (As := [.int (nI j)]) (rest := []) (fun sz => M_Slo_release l D K M a0 a1 a2 a3 n src prt use' cnt' j (by first | assumption | omega) (by first | assumption | omega) sz) [0, 1, 2, 3] rfl (by decide) (as := [a0, a1, a2, a3]) rfl rfl (ws' := [cO a0 6 [.ref a1, .ref a2, .ref a3, .int (f_rn use' cnt' j)], cI K a1 n src, cI K a2 n prt, cZ K a3 n (f_ru use' j)]) rfl 0 6 rfl rfl rfl (cw_Slo_30 hF.2.2.2.2.1 rfl rfl ⟨by decide, by decide⟩) rfl rfl (Nat.le_of_ble_eq_true rfl) d_Slo_releaseAll_13 ⟨Nat.zero_le _, Nat.zero_le _⟩ ?_
    refine zx_iinc (pc := 16) hF (v := nI (j + 1)) (lv' := [(1, .int (nI (j + 1))), (0, .ref a0)]) d_Slo_releaseAll_16 1 rfl (zinc j) (by decide) rfl ?_
    refine zx_goto (pc := 19) hF d_Slo_releaseAll_19 (tgt := 2) rfl ?_
    refine zx_lv [1, 0] (lv' := [(0, .ref a0), (1, .int (nI (j + 1)))]) rfl ?_
    exact ih (k - 1) (j + 1, f_ru use' j, f_rn use' cnt' j) (by omega) ⟨by first | omega | (dsimp only; omega) | dsimp only, by obtain ⟨k', rfl⟩ : ∃ k', k = k' + 1 := ⟨k - 1, by omega⟩; exact hX⟩
set_option maxRecDepth 20000 in
theorem M_Slo_findOrTake (l : Launch) (D : va_G) (K : Nat → ClassId) (M : List (ClassId × FieldType)) (a0 : Nat) (a1 : Nat) (a2 : Nat) (a3 : Nat) (n : Nat) (src : Nat → Int32) (prt : Nat → Int32) (use : Nat → Int32) (cnt : Int32) (s0 : Int32) (p0 : Int32) (hn : n < 2 ^ 31) (sz : Nat) : zM l y_Slo_findOrTake (zT y_Slo_findOrTake b_Slo_findOrTake 5 (some .int)) (zR 1 23) 0 0 D K M [.ref a0, .int s0, .int p0] [cO a0 6 [.ref a1, .ref a2, .ref a3, .int cnt], cI K a1 n src, cI K a2 n prt, cZ K a3 n use] sz (zQi D K M (f_fot use src prt n s0 p0) [cO a0 6 [.ref a1, .ref a2, .ref a3, .int (f_inc cnt (f_new use src prt n s0 p0))], cI K a1 n (f_put src (f_new use src prt n s0 p0) s0), cI K a2 n (f_put prt (f_new use src prt n s0 p0) p0), cZ K a3 n (f_put use (f_new use src prt n s0 p0) 1)]) := by
  refine zx_head (by decide) (Nat.le_of_ble_eq_true rfl) ?_
  intro _ _ _ _ _ _ _ _ _ hF hr hlk hnm
  refine zx_aload_n (pc := 0) hF d_Slo_findOrTake_0 rfl 0 rfl ?_
  refine zx_iload_n (pc := 1) hF d_Slo_findOrTake_1 rfl 1 rfl ?_
  refine zx_iload_n (pc := 2) hF d_Slo_findOrTake_2 rfl 2 rfl ?_
  refine zx_Vi (pc := 3) hF (As := [.int s0, .int p0]) (rest := []) (fun sz => M_Slo_find l D K M a0 a1 a2 a3 n src prt use cnt s0 p0 (by first | assumption | omega) sz) [0, 1, 2, 3] rfl (by decide) (as := [a0, a1, a2, a3]) rfl rfl (ws' := [cO a0 6 [.ref a1, .ref a2, .ref a3, .int cnt], cI K a1 n src, cI K a2 n prt, cZ K a3 n use]) rfl 0 6 rfl rfl rfl (cw_Slo_26 hF.2.2.2.2.1 rfl rfl ⟨by decide, by decide⟩) rfl rfl (Nat.le_of_ble_eq_true rfl) d_Slo_findOrTake_3 ⟨Nat.zero_le _, Nat.zero_le _⟩ ?_
  refine zx_istore_n (pc := 6) hF (lv' := [(3, .int (f_find use src prt n s0 p0)), (0, .ref a0), (1, .int s0), (2, .int p0)]) d_Slo_findOrTake_6 rfl (by decide) rfl ?_
  refine zx_iload_n (pc := 7) hF d_Slo_findOrTake_7 rfl 0 rfl ?_
  refine zx_iconst (pc := 8) hF d_Slo_findOrTake_8 k_im1 ?_
  refine zx_icmp_eq (pc := 9) hF d_Slo_findOrTake_9 (tgt := 14) rfl (fun h9 => ?_) (fun h9 => ?_)
  · refine zx_iconst (pc := 14) hF d_Slo_findOrTake_14 k_i0 ?_
    refine zx_istore (pc := 15) hF (lv' := [(4, .int 0), (3, .int (f_find use src prt n s0 p0)), (0, .ref a0), (1, .int s0), (2, .int p0)]) d_Slo_findOrTake_15 (by decide) rfl ?_
    refine zx_lv [2, 3, 4, 0] (lv' := [(0, .ref a0), (1, .int s0), (2, .int p0), (4, .int 0)]) rfl ?_
    refine zx_loop (pc := 17) (σ := Nat) (fun k zv => (zv + k = n) ∧ (f_first (fun zv => use zv == 0) k zv = f_free use n)) (fun zv => [cO a0 6 [.ref a1, .ref a2, .ref a3, .int cnt], cI K a1 n src, cI K a2 n prt, cZ K a3 n use]) (fun zv => [(0, .ref a0), (1, .int s0), (2, .int p0), (4, .int (nI zv))]) n 0 ⟨by first | omega | (dsimp only; omega) | dsimp only, rfl⟩ rfl rfl ?_
    intro k j hI ih
    obtain ⟨hk, hX⟩ := hI
    replace hk : j + k = n := hk
    replace hX : f_first (fun j => use j == 0) k j = f_free use n := hX
    refine zx_eq (ws' := [cO a0 6 [.ref a1, .ref a2, .ref a3, .int cnt], cI K a1 n src, cI K a2 n prt, cZ K a3 n use]) (lv' := [(0, .ref a0), (1, .int s0), (2, .int p0), (4, .int (nI j))]) rfl rfl rfl ?_
    refine zx_iload (pc := 17) hF d_Slo_findOrTake_17 3 rfl ?_
    refine zx_aload_n (pc := 19) hF d_Slo_findOrTake_19 rfl 0 rfl ?_
    refine zg_Slo_18 (pc := 20) hF 0 rfl rfl d_Slo_findOrTake_20 ?_
    refine zx_alen (pc := 23) hF 3 1 rfl rfl (v := nI n) rfl d_Slo_findOrTake_23 ?_
    refine zx_icmp_ge (pc := 24) hF d_Slo_findOrTake_24 (tgt := 80) rfl (fun h24 => ?_) (fun h24 => ?_)
    · replace h24 : n ≤ j := (nI_leI (a := n) (b := j) (by omega) (by omega)).mp h24
      refine zx_iconst (pc := 80) hF d_Slo_findOrTake_80 k_im1 ?_
      exact zx_iret (pc := 81) hF hr hlk (by obtain rfl : k = 0 := (by omega); simp [f_fot, h9, ← hX, f_first]) (by obtain rfl : k = 0 := (by omega); simp [f_new, f_put, f_inc, h9, ← hX, f_first]) d_Slo_findOrTake_81
    · replace h24 : ¬ n ≤ j := fun z => h24 ((nI_leI (a := n) (b := j) (by omega) (by omega)).mpr z)
      refine zx_aload_n (pc := 27) hF d_Slo_findOrTake_27 rfl 0 rfl ?_
      refine zg_Slo_18 (pc := 28) hF 0 rfl rfl d_Slo_findOrTake_28 ?_
      refine zx_iload (pc := 31) hF d_Slo_findOrTake_31 3 rfl ?_
      refine zx_zaldn (pc := 33) hF (i := j) 3 rfl (by omega) (by omega) d_Slo_findOrTake_33 ?_
      refine zx_if_ne (pc := 34) hF d_Slo_findOrTake_34 (tgt := 74) rfl (fun h34 => ?_) (fun h34 => ?_)
      · refine zx_iinc (pc := 74) hF (v := nI (j + 1)) (lv' := [(4, .int (nI (j + 1))), (0, .ref a0), (1, .int s0), (2, .int p0)]) d_Slo_findOrTake_74 3 rfl (zinc j) (by decide) rfl ?_
        refine zx_goto (pc := 77) hF d_Slo_findOrTake_77 (tgt := 17) rfl ?_
        refine zx_lv [1, 2, 3, 0] (lv' := [(0, .ref a0), (1, .int s0), (2, .int p0), (4, .int (nI (j + 1)))]) rfl ?_
        exact ih (k - 1) (j + 1) (by omega) ⟨by first | omega | (dsimp only; omega) | dsimp only, by obtain ⟨k', rfl⟩ : ∃ k', k = k' + 1 := ⟨k - 1, by omega⟩; simpa [f_first, h9, h24, h34] using hX⟩
      · refine zx_aload_n (pc := 37) hF d_Slo_findOrTake_37 rfl 0 rfl ?_
        refine zg_Slo_18 (pc := 38) hF 0 rfl rfl d_Slo_findOrTake_38 ?_
        refine zx_iload (pc := 41) hF d_Slo_findOrTake_41 3 rfl ?_
        refine zx_iconst (pc := 43) hF d_Slo_findOrTake_43 k_i1 ?_
        refine zx_zastn (pc := 44) hF (i := j) 3 rfl (by omega) (by omega) rfl d_Slo_findOrTake_44 (ws' := [cO a0 6 [.ref a1, .ref a2, .ref a3, .int cnt], cI K a1 n src, cI K a2 n prt, cZ K a3 n (upd use j 1)]) rfl ?_
        refine zx_aload_n (pc := 45) hF d_Slo_findOrTake_45 rfl 0 rfl ?_
        refine zg_Slo_9 (pc := 46) hF 0 rfl rfl d_Slo_findOrTake_46 ?_
        refine zx_iload (pc := 49) hF d_Slo_findOrTake_49 3 rfl ?_
        refine zx_iload_n (pc := 51) hF d_Slo_findOrTake_51 rfl 1 rfl ?_
        refine zx_iastn (pc := 52) hF (i := j) 1 rfl (by omega) (by omega) d_Slo_findOrTake_52 (ws' := [cO a0 6 [.ref a1, .ref a2, .ref a3, .int cnt], cI K a1 n (upd src j s0), cI K a2 n prt, cZ K a3 n (upd use j 1)]) rfl ?_
        refine zx_aload_n (pc := 53) hF d_Slo_findOrTake_53 rfl 0 rfl ?_
        refine zg_Slo_15 (pc := 54) hF 0 rfl rfl d_Slo_findOrTake_54 ?_
        refine zx_iload (pc := 57) hF d_Slo_findOrTake_57 3 rfl ?_
        refine zx_iload_n (pc := 59) hF d_Slo_findOrTake_59 rfl 2 rfl ?_
        refine zx_iastn (pc := 60) hF (i := j) 2 rfl (by omega) (by omega) d_Slo_findOrTake_60 (ws' := [cO a0 6 [.ref a1, .ref a2, .ref a3, .int cnt], cI K a1 n (upd src j s0), cI K a2 n (upd prt j p0), cZ K a3 n (upd use j 1)]) rfl ?_
        refine zx_aload_n (pc := 61) hF d_Slo_findOrTake_61 rfl 0 rfl ?_
        refine zx_dup (pc := 62) hF d_Slo_findOrTake_62 rfl ?_
        refine zg_Slo_22 (pc := 63) hF 0 rfl rfl d_Slo_findOrTake_63 ?_
        refine zx_iconst (pc := 66) hF d_Slo_findOrTake_66 k_i1 ?_
        refine zx_iadd (pc := 67) hF d_Slo_findOrTake_67 ?_
        refine zp_Slo_22 (pc := 68) hF 0 rfl (Nat.le_of_ble_eq_true rfl) d_Slo_findOrTake_68 (ws' := [cO a0 6 [.ref a1, .ref a2, .ref a3, .int (cnt + 1)], cI K a1 n (upd src j s0), cI K a2 n (upd prt j p0), cZ K a3 n (upd use j 1)]) rfl ?_
        refine zx_iload (pc := 71) hF d_Slo_findOrTake_71 3 rfl ?_
        exact zx_iret (pc := 73) hF hr hlk (by have hf : f_free use n = nI j := (by obtain ⟨k', rfl⟩ : ∃ k', k = k' + 1 := ⟨k - 1, by omega⟩; simpa [f_first, h34] using hX.symm); simp [f_fot, h9, hf]) (by have hf : f_free use n = nI j := (by obtain ⟨k', rfl⟩ : ∃ k', k = k' + 1 := ⟨k - 1, by omega⟩; simpa [f_first, h34] using hX.symm); have hj : j < 2 ^ 31 := (by omega); simp [f_new, f_put, f_inc, h9, hf, zm1 hj, nI_clamp hj]) d_Slo_findOrTake_73
  · refine zx_iload_n (pc := 12) hF d_Slo_findOrTake_12 rfl 0 rfl ?_
    exact zx_iret (pc := 13) hF hr hlk (by simp [f_fot, h9]) (by simp [f_new, f_put, f_inc, h9]) d_Slo_findOrTake_13
set_option maxRecDepth 20000 in
theorem M_Lst_placeAt (l : Launch) (D : va_G) (K : Nat → ClassId) (M : List (ClassId × FieldType)) (a0 : Nat) (a1 : Nat) (a2 : Nat) (n : Nat) (q : Int32) (fst : Nat → Int32) (stp : Nat → Int32) (j : Nat) (t : Int32) (hj : j < n) (hn : n < 2 ^ 31) (hq : ¬ q = 0) (sz : Nat) : zM l y_Lst_placeAt (zT y_Lst_placeAt b_Lst_placeAt 3 (some .int)) (zR 0 0) 0 0 D K M [.ref a0, .int (nI j), .int t] [cO a0 4 [.int q, .ref a1, .ref a2], cI K a1 n fst, cI K a2 n stp] sz (zQi D K M (f_rem (fst j + t * stp j) q) [cO a0 4 [.int q, .ref a1, .ref a2], cI K a1 n fst, cI K a2 n stp]) := by
  refine zx_head (by decide) (Nat.le_of_ble_eq_true rfl) ?_
  intro _ _ _ _ _ _ _ _ _ hF hr hlk hnm
  refine zx_aload_n (pc := 0) hF d_Lst_placeAt_0 rfl 0 rfl ?_
  refine zg_Lst_15 (pc := 1) hF 0 rfl rfl d_Lst_placeAt_1 ?_
  refine zx_iload_n (pc := 4) hF d_Lst_placeAt_4 rfl 1 rfl ?_
  refine zx_ialdn (pc := 5) hF (i := j) 1 rfl (by omega) (by omega) d_Lst_placeAt_5 ?_
  refine zx_iload_n (pc := 6) hF d_Lst_placeAt_6 rfl 2 rfl ?_
  refine zx_aload_n (pc := 7) hF d_Lst_placeAt_7 rfl 0 rfl ?_
  refine zg_Lst_19 (pc := 8) hF 0 rfl rfl d_Lst_placeAt_8 ?_
  refine zx_iload_n (pc := 11) hF d_Lst_placeAt_11 rfl 1 rfl ?_
  refine zx_ialdn (pc := 12) hF (i := j) 2 rfl (by omega) (by omega) d_Lst_placeAt_12 ?_
  refine zx_imul (pc := 13) hF d_Lst_placeAt_13 ?_
  refine zx_iadd (pc := 14) hF d_Lst_placeAt_14 ?_
  refine zx_aload_n (pc := 15) hF d_Lst_placeAt_15 rfl 0 rfl ?_
  refine zg_Lst_9 (pc := 16) hF 0 rfl rfl d_Lst_placeAt_16 ?_
  refine zx_irem (pc := 19) hF d_Lst_placeAt_19 hq ?_
  exact zx_iret (pc := 20) hF hr hlk (by first | rfl | (simp only []; done) | (simp only [↓reduceIte]; done) | simp []) (by first | rfl | (simp only []; done) | (simp only [↓reduceIte]; done) | simp []) d_Lst_placeAt_20
