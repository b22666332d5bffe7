set_option maxRecDepth 20000 in
theorem M_Tab_fillAnew (l : Launch) (D : va_G) (K : Nat → ClassId) (M : List (ClassId × FieldType)) (b0 : Nat) (b1 : Nat) (b2 : Nat) (b3 : Nat) (l0 : Nat) (chg : Int32) (m : Nat) (own : Nat → Int32) (l1 : Nat) (l2 : Nat) (n : Nat) (fst : Nat → Int32) (stp : Nat → Int32) (bef : Nat → Int32) (nxt : Nat → Int32) (fN : Nat → Nat) (sN : Nat → Nat) (w0 : Nat) (w1 : Nat) (w2 : Nat) (up : Nat → Int32) (con : Nat → Int32) (hm : 0 < m ∧ m ≤ 101) (hn : n ≤ 8) (hL : f_LN fst stp fN sN m n) (hu : z01 up) (sz : Nat) : zM l y_Tab_fillAnew (zT y_Tab_fillAnew b_Tab_fillAnew 3 none) (zR 3 68) 0 0 D K M [.ref b0, .ref w0] [cO b0 8 [.int chg, .ref l0, .ref b1, .ref b2, .ref b3], cO l0 4 [.int (nI m), .ref l1, .ref l2], cI K l1 n fst, cI K l2 n stp, cI K b1 m own, cI K b2 m bef, cI K b3 n nxt, cO w0 9 [.ref w1, .ref w2], cZ K w1 n up, cI K w2 n con] sz (zQv D K M [cO b0 8 [.int (nI (f_count (fun p => !((f_tab fN sN m n up own nxt).1 p == (va_cpy own bef 0 0 m) p)) m 0 0)), .ref l0, .ref b1, .ref b2, .ref b3], cO l0 4 [.int (nI m), .ref l1, .ref l2], cI K l1 n fst, cI K l2 n stp, cI K b1 m (f_tab fN sN m n up own nxt).1, cI K b2 m (va_cpy own bef 0 0 m), cI K b3 n (f_tab fN sN m n up own nxt).2.1, cO w0 9 [.ref w1, .ref w2], cZ K w1 n up, cI K w2 n con]) := by
  refine zx_head (by decide) (Nat.le_of_ble_eq_true rfl) ?_
  intro _ _ _ _ _ _ _ _ _ hF hr hlk hnm
  refine zx_aload_n (pc := 0) hF d_Tab_fillAnew_0 rfl 0 rfl ?_
  refine zg_Tab_21 (pc := 1) hF 0 rfl rfl d_Tab_fillAnew_1 ?_
  refine zx_iconst (pc := 4) hF d_Tab_fillAnew_4 k_i0 ?_
  refine zx_aload_n (pc := 5) hF d_Tab_fillAnew_5 rfl 0 rfl ?_
  refine zg_Tab_25 (pc := 6) hF 0 rfl rfl d_Tab_fillAnew_6 ?_
  refine zx_iconst (pc := 9) hF d_Tab_fillAnew_9 k_i0 ?_
  refine zx_aload_n (pc := 10) hF d_Tab_fillAnew_10 rfl 0 rfl ?_
  refine zg_Tab_21 (pc := 11) hF 0 rfl rfl d_Tab_fillAnew_11 ?_
  refine zx_alen (pc := 14) hF 4 0 rfl rfl (v := nI m) rfl d_Tab_fillAnew_14 ?_
  refine zx_copy (pc := 15) hF wm_Tab_31 4 5 rfl rfl (sp := 0) (dp := 0) (n := m) (by omega) (by omega) (by omega) (by omega) (Nat.le_of_ble_eq_true rfl) (Nat.le_of_ble_eq_true rfl) d_Tab_fillAnew_15 (ws' := [cO b0 8 [.int chg, .ref l0, .ref b1, .ref b2, .ref b3], cO l0 4 [.int (nI m), .ref l1, .ref l2], cI K l1 n fst, cI K l2 n stp, cI K b1 m own, cI K b2 m (va_cpy own bef 0 0 m), cI K b3 n nxt, cO w0 9 [.ref w1, .ref w2], cZ K w1 n up, cI K w2 n con]) rfl ?_
  refine zx_aload_n (pc := 18) hF d_Tab_fillAnew_18 rfl 0 rfl ?_
  refine zx_aload_n (pc := 19) hF d_Tab_fillAnew_19 rfl 1 rfl ?_
  refine zx_Vv (pc := 20) hF (As := [.ref w0]) (rest := []) (fun sz => M_Tab_fill l D K M b0 b1 b2 b3 l0 chg m own l1 l2 n fst stp (va_cpy own bef 0 0 m) nxt fN sN w0 w1 w2 up con (by first | assumption | omega) (by first | assumption | omega) (by first | assumption | omega) (by first | assumption | omega) sz) [0, 1, 2, 3, 4, 5, 6, 7, 8, 9] rfl (by decide) (as := [b0, l0, l1, l2, b1, b2, b3, w0, w1, w2]) rfl rfl (ws' := [cO b0 8 [.int chg, .ref l0, .ref b1, .ref b2, .ref b3], cO l0 4 [.int (nI m), .ref l1, .ref l2], cI K l1 n fst, cI K l2 n stp, cI K b1 m (f_tab fN sN m n up own nxt).1, cI K b2 m (va_cpy own bef 0 0 m), cI K b3 n (f_tab fN sN m n up own nxt).2.1, cO w0 9 [.ref w1, .ref w2], cZ K w1 n up, cI K w2 n con]) rfl 0 8 rfl rfl rfl (cw_Tab_37 hF.2.2.2.2.1 rfl rfl ⟨by decide, by decide⟩) rfl rfl (Nat.le_of_ble_eq_true rfl) d_Tab_fillAnew_20 ⟨Nat.zero_le _, Nat.zero_le _⟩ ?_
  refine zx_aload_n (pc := 23) hF d_Tab_fillAnew_23 rfl 0 rfl ?_
  refine zx_iconst (pc := 24) hF d_Tab_fillAnew_24 k_i0 ?_
  refine zp_Tab_41 (pc := 25) hF 0 rfl (Nat.le_of_ble_eq_true rfl) d_Tab_fillAnew_25 (ws' := [cO b0 8 [.int 0, .ref l0, .ref b1, .ref b2, .ref b3], cO l0 4 [.int (nI m), .ref l1, .ref l2], cI K l1 n fst, cI K l2 n stp, cI K b1 m (f_tab fN sN m n up own nxt).1, cI K b2 m (va_cpy own bef 0 0 m), cI K b3 n (f_tab fN sN m n up own nxt).2.1, cO w0 9 [.ref w1, .ref w2], cZ K w1 n up, cI K w2 n con]) rfl ?_
  refine zx_iconst (pc := 28) hF d_Tab_fillAnew_28 k_i0 ?_
  refine zx_istore_n (pc := 29) hF (lv' := [(2, .int 0), (0, .ref b0), (1, .ref w0)]) d_Tab_fillAnew_29 rfl (by decide) rfl ?_
  refine zx_lv [1, 0] (lv' := [(0, .ref b0), (2, .int 0)]) rfl ?_
  refine zx_loop (pc := 30) (σ := Nat × Nat) (fun k zv => (zv.1 + k = m) ∧ (f_count (fun p => !((f_tab fN sN m n up own nxt).1 p == (va_cpy own bef 0 0 m) p)) k zv.1 zv.2 = f_count (fun p => !((f_tab fN sN m n up own nxt).1 p == (va_cpy own bef 0 0 m) p)) m 0 0)) (fun zv => [cO b0 8 [.int (nI zv.2), .ref l0, .ref b1, .ref b2, .ref b3], cO l0 4 [.int (nI m), .ref l1, .ref l2], cI K l1 n fst, cI K l2 n stp, cI K b1 m (f_tab fN sN m n up own nxt).1, cI K b2 m (va_cpy own bef 0 0 m), cI K b3 n (f_tab fN sN m n up own nxt).2.1, cO w0 9 [.ref w1, .ref w2], cZ K w1 n up, cI K w2 n con]) (fun zv => [(0, .ref b0), (2, .int (nI zv.1))]) m (0, 0) ⟨by first | omega | (dsimp only; omega) | dsimp only, rfl⟩ rfl rfl ?_
  intro k zv hI ih
  obtain ⟨j, c⟩ := zv
  obtain ⟨hk, hX⟩ := hI
  replace hk : j + k = m := hk
  replace hX : f_count (fun p => !((f_tab fN sN m n up own nxt).1 p == (va_cpy own bef 0 0 m) p)) k j c = f_count (fun p => !((f_tab fN sN m n up own nxt).1 p == (va_cpy own bef 0 0 m) p)) m 0 0 := hX
  refine zx_eq (ws' := [cO b0 8 [.int (nI c), .ref l0, .ref b1, .ref b2, .ref b3], cO l0 4 [.int (nI m), .ref l1, .ref l2], cI K l1 n fst, cI K l2 n stp, cI K b1 m (f_tab fN sN m n up own nxt).1, cI K b2 m (va_cpy own bef 0 0 m), cI K b3 n (f_tab fN sN m n up own nxt).2.1, cO w0 9 [.ref w1, .ref w2], cZ K w1 n up, cI K w2 n con]) (lv' := [(0, .ref b0), (2, .int (nI j))]) rfl rfl rfl ?_
  refine zx_iload_n (pc := 30) hF d_Tab_fillAnew_30 rfl 1 rfl ?_
  refine zx_aload_n (pc := 31) hF d_Tab_fillAnew_31 rfl 0 rfl ?_
  refine zg_Tab_21 (pc := 32) hF 0 rfl rfl d_Tab_fillAnew_32 ?_
  refine zx_alen (pc := 35) hF 4 0 rfl rfl (v := nI m) rfl d_Tab_fillAnew_35 ?_
  refine zx_icmp_ge (pc := 36) hF d_Tab_fillAnew_36 (tgt := 70) rfl (fun h36 => ?_) (fun h36 => ?_)
  · replace h36 : m ≤ j := (nI_leI (a := m) (b := j) (by omega) (by omega)).mp h36
    exact zx_vret (pc := 70) hF hr hlk (by obtain rfl : k = 0 := (by omega); rw [← hX]; rfl) d_Tab_fillAnew_70
  · replace h36 : ¬ m ≤ j := fun z => h36 ((nI_leI (a := m) (b := j) (by omega) (by omega)).mpr z)
    refine zx_aload_n (pc := 39) hF d_Tab_fillAnew_39 rfl 0 rfl ?_
    refine zg_Tab_21 (pc := 40) hF 0 rfl rfl d_Tab_fillAnew_40 ?_
    refine zx_iload_n (pc := 43) hF d_Tab_fillAnew_43 rfl 1 rfl ?_
    refine zx_ialdn (pc := 44) hF (i := j) 4 rfl (by omega) (by omega) d_Tab_fillAnew_44 ?_
    refine zx_aload_n (pc := 45) hF d_Tab_fillAnew_45 rfl 0 rfl ?_
    refine zg_Tab_25 (pc := 46) hF 0 rfl rfl d_Tab_fillAnew_46 ?_
    refine zx_iload_n (pc := 49) hF d_Tab_fillAnew_49 rfl 1 rfl ?_
    refine zx_ialdn (pc := 50) hF (i := j) 5 rfl (by omega) (by omega) d_Tab_fillAnew_50 ?_
    refine zx_icmp_eq (pc := 51) hF d_Tab_fillAnew_51 (tgt := 64) rfl (fun h51 => ?_) (fun h51 => ?_)
    · refine zx_iinc (pc := 64) hF (v := nI (j + 1)) (lv' := [(2, .int (nI (j + 1))), (0, .ref b0)]) d_Tab_fillAnew_64 1 rfl (zinc j) (by decide) rfl ?_
      refine zx_goto (pc := 67) hF d_Tab_fillAnew_67 (tgt := 30) rfl ?_
      refine zx_lv [1, 0] (lv' := [(0, .ref b0), (2, .int (nI (j + 1)))]) rfl ?_
      exact ih (k - 1) (j + 1, c) (by omega) ⟨by first | omega | (dsimp only; omega) | dsimp only, by obtain ⟨k', rfl⟩ : ∃ k', k = k' + 1 := ⟨k - 1, by omega⟩; simpa [f_count, h36, h51] using hX⟩
    · refine zx_aload_n (pc := 54) hF d_Tab_fillAnew_54 rfl 0 rfl ?_
      refine zx_dup (pc := 55) hF d_Tab_fillAnew_55 rfl ?_
      refine zg_Tab_41 (pc := 56) hF 0 rfl rfl d_Tab_fillAnew_56 ?_
      refine zx_iconst (pc := 59) hF d_Tab_fillAnew_59 k_i1 ?_
      refine zx_iadd (pc := 60) hF d_Tab_fillAnew_60 ?_
      refine zx_topi (nI (c + 1)) (nI_add c 1) ?_
      refine zp_Tab_41 (pc := 61) hF 0 rfl (Nat.le_of_ble_eq_true rfl) d_Tab_fillAnew_61 (ws' := [cO b0 8 [.int (nI (c + 1)), .ref l0, .ref b1, .ref b2, .ref b3], cO l0 4 [.int (nI m), .ref l1, .ref l2], cI K l1 n fst, cI K l2 n stp, cI K b1 m (f_tab fN sN m n up own nxt).1, cI K b2 m (va_cpy own bef 0 0 m), cI K b3 n (f_tab fN sN m n up own nxt).2.1, cO w0 9 [.ref w1, .ref w2], cZ K w1 n up, cI K w2 n con]) rfl ?_
      refine zx_iinc (pc := 64) hF (v := nI (j + 1)) (lv' := [(2, .int (nI (j + 1))), (0, .ref b0)]) d_Tab_fillAnew_64 1 rfl (zinc j) (by decide) rfl ?_
      refine zx_goto (pc := 67) hF d_Tab_fillAnew_67 (tgt := 30) rfl ?_
      refine zx_lv [1, 0] (lv' := [(0, .ref b0), (2, .int (nI (j + 1)))]) rfl ?_
      exact ih (k - 1) (j + 1, c + 1) (by omega) ⟨by first | omega | (dsimp only; omega) | dsimp only, by obtain ⟨k', rfl⟩ : ∃ k', k = k' + 1 := ⟨k - 1, by omega⟩; simpa [f_count, h36, h51] using hX⟩
set_option maxRecDepth 20000 in
theorem M_Bal_setLive (l : Launch) (D : va_G) (K : Nat → ClassId) (M : List (ClassId × FieldType)) (o0 : Nat) (w0 : Nat) (b0 : Nat) (e0 : Nat) (t0 : Nat) (x0 : Nat) (live : Int32) (e1 : Nat) (e2 : Nat) (e3 : Nat) (a0 : Nat) (a1 : Nat) (a2 : Nat) (a3 : Nat) (src : Nat → Int32) (prt : Nat → Int32) (use : Nat → Int32) (cnt : Int32) (o : Int32) (ho : o = 0 ∨ o = 1) (sz : Nat) : zM l y_Bal_setLive (zT y_Bal_setLive b_Bal_setLive 2 (some .boolean)) (zR 2 42) 0 0 D K M [.ref o0, .int o] [cO o0 1 [.ref w0, .ref b0, .ref e0, .ref t0, .int live, .ref x0], cO e0 3 [.ref a0, .ref e1, .ref e2, .ref e3], cO a0 6 [.ref a1, .ref a2, .ref a3, .int cnt], cI K a1 8 src, cI K a2 8 prt, cZ K a3 8 use] sz (zQi D K M (f_seton live o) [cO o0 1 [.ref w0, .ref b0, .ref e0, .ref t0, .int o, .ref x0], cO e0 3 [.ref a0, .ref e1, .ref e2, .ref e3], cO a0 6 [.ref a1, .ref a2, .ref a3, .int (f_liveuse live o use cnt).2], cI K a1 8 src, cI K a2 8 prt, cZ K a3 8 (f_liveuse live o use cnt).1]) := by
  refine zx_head (by decide) (Nat.le_of_ble_eq_true rfl) ?_
  intro _ _ _ _ _ _ _ _ _ hF hr hlk hnm
  refine zx_aload_n (pc := 0) hF d_Bal_setLive_0 rfl 0 rfl ?_
  refine zg_Bal_28 (pc := 1) hF 0 rfl rfl d_Bal_setLive_1 ?_
  refine zx_iload_n (pc := 4) hF d_Bal_setLive_4 rfl 1 rfl ?_
  refine zx_icmp_ne (pc := 5) hF d_Bal_setLive_5 (tgt := 10) rfl (fun h5 => ?_) (fun h5 => ?_)
  · refine zx_aload_n (pc := 10) hF d_Bal_setLive_10 rfl 0 rfl ?_
    refine zx_iload_n (pc := 11) hF d_Bal_setLive_11 rfl 1 rfl ?_
    refine zp_Bal_28 (pc := 12) hF 0 rfl ho (Nat.le_of_ble_eq_true rfl) d_Bal_setLive_12 (ws' := [cO o0 1 [.ref w0, .ref b0, .ref e0, .ref t0, .int o, .ref x0], cO e0 3 [.ref a0, .ref e1, .ref e2, .ref e3], cO a0 6 [.ref a1, .ref a2, .ref a3, .int cnt], cI K a1 8 src, cI K a2 8 prt, cZ K a3 8 use]) rfl ?_
    refine zx_iload_n (pc := 15) hF d_Bal_setLive_15 rfl 1 rfl ?_
    refine zx_if_ne (pc := 16) hF d_Bal_setLive_16 (tgt := 29) rfl (fun h16 => ?_) (fun h16 => ?_)
    · refine zx_iconst (pc := 29) hF d_Bal_setLive_29 k_i1 ?_
      exact zx_zret (pc := 30) hF hr hlk rfl (by first | with_reducible rfl | (simp only [f_seton, f_liveuse, if_neg h5, if_neg h16]; done) | (simp only [f_seton, f_liveuse, h5, h16, ↓reduceIte]; done) | simp [f_seton, f_liveuse, h5, h16]) (by first | with_reducible rfl | (simp only [f_seton, f_liveuse, if_neg h5, if_neg h16]; done) | (simp only [f_seton, f_liveuse, h5, h16, ↓reduceIte]; done) | simp [f_seton, f_liveuse, h5, h16]) d_Bal_setLive_30
    · refine zx_aload_n (pc := 19) hF d_Bal_setLive_19 rfl 0 rfl ?_
      refine zg_Bal_12 (pc := 20) hF 0 rfl rfl d_Bal_setLive_20 ?_
      refine zg_Bal_56 (pc := 23) hF 1 rfl rfl d_Bal_setLive_23 ?_
      refine zx_Vv (pc := 26) hF (As := []) (rest := []) (fun sz => M_Slo_releaseAll l D K M a0 a1 a2 a3 8 src prt use cnt (by first | assumption | omega) sz) [2, 3, 4, 5] rfl (by decide) (as := [a0, a1, a2, a3]) rfl rfl (ws' := [cO o0 1 [.ref w0, .ref b0, .ref e0, .ref t0, .int o, .ref x0], cO e0 3 [.ref a0, .ref e1, .ref e2, .ref e3], cO a0 6 [.ref a1, .ref a2, .ref a3, .int (f_all 8 0 use cnt).2], cI K a1 8 src, cI K a2 8 prt, cZ K a3 8 (f_all 8 0 use cnt).1]) rfl 0 6 rfl rfl rfl (cw_Bal_60 hF.2.2.2.2.1 rfl rfl ⟨by decide, by decide⟩) rfl rfl (Nat.le_of_ble_eq_true rfl) d_Bal_setLive_26 ⟨Nat.zero_le _, Nat.zero_le _⟩ ?_
      refine zx_iconst (pc := 29) hF d_Bal_setLive_29 k_i1 ?_
      exact zx_zret (pc := 30) hF hr hlk rfl (by first | with_reducible rfl | (simp only [f_seton, f_liveuse, if_neg h5, if_pos h16]; done) | (simp only [f_seton, f_liveuse, h5, h16, ↓reduceIte]; done) | simp [f_seton, f_liveuse, h5, h16]) (by first | with_reducible rfl | (simp only [f_seton, f_liveuse, if_neg h5, if_pos h16]; done) | (simp only [f_seton, f_liveuse, h5, h16, ↓reduceIte]; done) | simp [f_seton, f_liveuse, h5, h16]) d_Bal_setLive_30
  · refine zx_iconst (pc := 8) hF d_Bal_setLive_8 k_i0 ?_
    exact zx_zret (pc := 9) hF hr hlk rfl (by first | with_reducible rfl | (simp only [f_seton, f_liveuse, if_pos h5]; done) | (simp only [f_seton, f_liveuse, h5, ↓reduceIte]; done) | simp [f_seton, f_liveuse, h5]) (by first | with_reducible rfl | (simp only [f_seton, f_liveuse, if_pos h5]; done) | (simp only [f_seton, f_liveuse, h5, ↓reduceIte]; done) | simp [f_seton, f_liveuse, h5]) d_Bal_setLive_9
set_option maxRecDepth 20000 in
theorem M_Bal_setPath (l : Launch) (D : va_G) (K : Nat → ClassId) (M : List (ClassId × FieldType)) (o0 : Nat) (w0 : Nat) (b0 : Nat) (e0 : Nat) (t0 : Nat) (x0 : Nat) (live : Int32) (n : Nat) (cut : Nat → Int32) (j : Nat) (v : Int32) (hj : j < n) (hn : n < 2 ^ 31) (sz : Nat) : zM l y_Bal_setPath (zT y_Bal_setPath b_Bal_setPath 4 (some .boolean)) (zR 0 0) 0 0 D K M [.ref o0, .int (nI j), .int v] [cO o0 1 [.ref w0, .ref b0, .ref e0, .ref t0, .int live, .ref x0], cZ K x0 n cut] sz (zQi D K M (f_sw (cut j) v) [cO o0 1 [.ref w0, .ref b0, .ref e0, .ref t0, .int live, .ref x0], cZ K x0 n (upd cut j (f_not v))]) := by
  refine zx_head (by decide) (Nat.le_of_ble_eq_true rfl) ?_
  intro _ _ _ _ _ _ _ _ _ hF hr hlk hnm
  refine zx_aload_n (pc := 0) hF d_Bal_setPath_0 rfl 0 rfl ?_
  refine zg_Bal_48 (pc := 1) hF 0 rfl rfl d_Bal_setPath_1 ?_
  refine zx_iload_n (pc := 4) hF d_Bal_setPath_4 rfl 1 rfl ?_
  refine zx_zaldn (pc := 5) hF (i := j) 1 rfl (by omega) (by omega) d_Bal_setPath_5 ?_
  refine zx_iload_n (pc := 6) hF d_Bal_setPath_6 rfl 2 rfl ?_
  refine zx_icmp_ne (pc := 7) hF d_Bal_setPath_7 (tgt := 14) rfl (fun h7 => ?_) (fun h7 => ?_)
  · refine zx_iconst (pc := 14) hF d_Bal_setPath_14 k_i0 ?_
    refine zx_istore_n (pc := 15) hF (lv' := [(3, .int 0), (0, .ref o0), (1, .int (nI j)), (2, .int v)]) d_Bal_setPath_15 rfl (by decide) rfl ?_
    refine zx_aload_n (pc := 16) hF d_Bal_setPath_16 rfl 1 rfl ?_
    refine zg_Bal_48 (pc := 17) hF 0 rfl rfl d_Bal_setPath_17 ?_
    refine zx_iload_n (pc := 20) hF d_Bal_setPath_20 rfl 2 rfl ?_
    refine zx_iload_n (pc := 21) hF d_Bal_setPath_21 rfl 3 rfl ?_
    refine zx_if_ne (pc := 22) hF d_Bal_setPath_22 (tgt := 29) rfl (fun h22 => ?_) (fun h22 => ?_)
    · refine zx_iconst (pc := 29) hF d_Bal_setPath_29 k_i0 ?_
      refine zx_zastn (pc := 30) hF (i := j) 1 rfl (by omega) (by omega) rfl d_Bal_setPath_30 (ws' := [cO o0 1 [.ref w0, .ref b0, .ref e0, .ref t0, .int live, .ref x0], cZ K x0 n (upd cut j 0)]) rfl ?_
      refine zx_iload_n (pc := 31) hF d_Bal_setPath_31 rfl 0 rfl ?_
      exact zx_zret (pc := 32) hF hr hlk rfl (by first | with_reducible rfl | (simp only [f_sw, f_not, if_neg h7, if_neg h22]; done) | (simp only [f_sw, f_not, h7, h22, ↓reduceIte]; done) | simp [f_sw, f_not, h7, h22]) (by first | with_reducible rfl | (simp only [f_sw, f_not, if_neg h7, if_neg h22]; done) | (simp only [f_sw, f_not, h7, h22, ↓reduceIte]; done) | simp [f_sw, f_not, h7, h22]) d_Bal_setPath_32
    · refine zx_iconst (pc := 25) hF d_Bal_setPath_25 k_i1 ?_
      refine zx_goto (pc := 26) hF d_Bal_setPath_26 (tgt := 30) rfl ?_
      refine zx_zastn (pc := 30) hF (i := j) 1 rfl (by omega) (by omega) rfl d_Bal_setPath_30 (ws' := [cO o0 1 [.ref w0, .ref b0, .ref e0, .ref t0, .int live, .ref x0], cZ K x0 n (upd cut j 1)]) rfl ?_
      refine zx_iload_n (pc := 31) hF d_Bal_setPath_31 rfl 0 rfl ?_
      exact zx_zret (pc := 32) hF hr hlk rfl (by first | with_reducible rfl | (simp only [f_sw, f_not, if_neg h7, if_pos h22]; done) | (simp only [f_sw, f_not, h7, h22, ↓reduceIte]; done) | simp [f_sw, f_not, h7, h22]) (by first | with_reducible rfl | (simp only [f_sw, f_not, if_neg h7, if_pos h22]; done) | (simp only [f_sw, f_not, h7, h22, ↓reduceIte]; done) | simp [f_sw, f_not, h7, h22]) d_Bal_setPath_32
  · refine zx_iconst (pc := 10) hF d_Bal_setPath_10 k_i1 ?_
    refine zx_goto (pc := 11) hF d_Bal_setPath_11 (tgt := 15) rfl ?_
    refine zx_istore_n (pc := 15) hF (lv' := [(3, .int 1), (0, .ref o0), (1, .int (nI j)), (2, .int v)]) d_Bal_setPath_15 rfl (by decide) rfl ?_
    refine zx_aload_n (pc := 16) hF d_Bal_setPath_16 rfl 1 rfl ?_
    refine zg_Bal_48 (pc := 17) hF 0 rfl rfl d_Bal_setPath_17 ?_
    refine zx_iload_n (pc := 20) hF d_Bal_setPath_20 rfl 2 rfl ?_
    refine zx_iload_n (pc := 21) hF d_Bal_setPath_21 rfl 3 rfl ?_
    refine zx_if_ne (pc := 22) hF d_Bal_setPath_22 (tgt := 29) rfl (fun h22 => ?_) (fun h22 => ?_)
    · refine zx_iconst (pc := 29) hF d_Bal_setPath_29 k_i0 ?_
      refine zx_zastn (pc := 30) hF (i := j) 1 rfl (by omega) (by omega) rfl d_Bal_setPath_30 (ws' := [cO o0 1 [.ref w0, .ref b0, .ref e0, .ref t0, .int live, .ref x0], cZ K x0 n (upd cut j 0)]) rfl ?_
      refine zx_iload_n (pc := 31) hF d_Bal_setPath_31 rfl 0 rfl ?_
      exact zx_zret (pc := 32) hF hr hlk rfl (by first | with_reducible rfl | (simp only [f_sw, f_not, if_pos h7, if_neg h22]; done) | (simp only [f_sw, f_not, h7, h22, ↓reduceIte]; done) | simp [f_sw, f_not, h7, h22]) (by first | with_reducible rfl | (simp only [f_sw, f_not, if_pos h7, if_neg h22]; done) | (simp only [f_sw, f_not, h7, h22, ↓reduceIte]; done) | simp [f_sw, f_not, h7, h22]) d_Bal_setPath_32
    · refine zx_iconst (pc := 25) hF d_Bal_setPath_25 k_i1 ?_
      refine zx_goto (pc := 26) hF d_Bal_setPath_26 (tgt := 30) rfl ?_
      refine zx_zastn (pc := 30) hF (i := j) 1 rfl (by omega) (by omega) rfl d_Bal_setPath_30 (ws' := [cO o0 1 [.ref w0, .ref b0, .ref e0, .ref t0, .int live, .ref x0], cZ K x0 n (upd cut j 1)]) rfl ?_
      refine zx_iload_n (pc := 31) hF d_Bal_setPath_31 rfl 0 rfl ?_
      exact zx_zret (pc := 32) hF hr hlk rfl (by first | with_reducible rfl | (simp only [f_sw, f_not, if_pos h7, if_pos h22]; done) | (simp only [f_sw, f_not, h7, h22, ↓reduceIte]; done) | simp [f_sw, f_not, h7, h22]) (by first | with_reducible rfl | (simp only [f_sw, f_not, if_pos h7, if_pos h22]; done) | (simp only [f_sw, f_not, h7, h22, ↓reduceIte]; done) | simp [f_sw, f_not, h7, h22]) d_Bal_setPath_32
set_option maxRecDepth 20000 in
theorem M_Bal_reaches (l : Launch) (D : va_G) (K : Nat → ClassId) (M : List (ClassId × FieldType)) (o0 : Nat) (w0 : Nat) (b0 : Nat) (e0 : Nat) (t0 : Nat) (x0 : Nat) (live : Int32) (n : Nat) (cut : Nat → Int32) (v0 : Nat) (c0 : Nat) (c1 : Nat) (on : Int32) (tk : Int32) (v1 : Nat) (v2 : Nat) (j : Nat) (hj : j < n) (hn : n < 2 ^ 31) (sz : Nat) : zM l y_Bal_reaches (zT y_Bal_reaches b_Bal_reaches 3 (some .boolean)) (zR 0 0) 0 0 D K M [.ref o0, .int (nI j), .ref v0] [cO o0 1 [.ref w0, .ref b0, .ref e0, .ref t0, .int live, .ref x0], cZ K x0 n cut, cO v0 5 [.ref c0, .ref c1, .int on, .int tk, .ref v1, .ref v2]] sz (zQi D K M (f_meets on (cut j)) [cO o0 1 [.ref w0, .ref b0, .ref e0, .ref t0, .int live, .ref x0], cZ K x0 n cut, cO v0 5 [.ref c0, .ref c1, .int on, .int tk, .ref v1, .ref v2]]) := by
  refine zx_head (by decide) (Nat.le_of_ble_eq_true rfl) ?_
  intro _ _ _ _ _ _ _ _ _ hF hr hlk hnm
  refine zx_aload_n (pc := 0) hF d_Bal_reaches_0 rfl 2 rfl ?_
  refine zg_Bal_65 (pc := 1) hF 2 rfl rfl d_Bal_reaches_1 ?_
  refine zx_if_eq (pc := 4) hF d_Bal_reaches_4 (tgt := 20) rfl (fun h4 => ?_) (fun h4 => ?_)
  · refine zx_iconst (pc := 20) hF d_Bal_reaches_20 k_i0 ?_
    exact zx_zret (pc := 21) hF hr hlk rfl (by first | with_reducible rfl | (simp only [f_meets, if_pos h4]; done) | (simp only [f_meets, h4, ↓reduceIte]; done) | simp [f_meets, h4]) (by first | with_reducible rfl | (simp only [f_meets, if_pos h4]; done) | (simp only [f_meets, h4, ↓reduceIte]; done) | simp [f_meets, h4]) d_Bal_reaches_21
  · refine zx_aload_n (pc := 7) hF d_Bal_reaches_7 rfl 0 rfl ?_
    refine zg_Bal_48 (pc := 8) hF 0 rfl rfl d_Bal_reaches_8 ?_
    refine zx_iload_n (pc := 11) hF d_Bal_reaches_11 rfl 1 rfl ?_
    refine zx_zaldn (pc := 12) hF (i := j) 1 rfl (by omega) (by omega) d_Bal_reaches_12 ?_
    refine zx_if_ne (pc := 13) hF d_Bal_reaches_13 (tgt := 20) rfl (fun h13 => ?_) (fun h13 => ?_)
    · refine zx_iconst (pc := 20) hF d_Bal_reaches_20 k_i0 ?_
      exact zx_zret (pc := 21) hF hr hlk rfl (by first | with_reducible rfl | (simp only [f_meets, if_neg h4, if_neg h13]; done) | (simp only [f_meets, h4, h13, ↓reduceIte]; done) | simp [f_meets, h4, h13]) (by first | with_reducible rfl | (simp only [f_meets, if_neg h4, if_neg h13]; done) | (simp only [f_meets, h4, h13, ↓reduceIte]; done) | simp [f_meets, h4, h13]) d_Bal_reaches_21
    · refine zx_iconst (pc := 16) hF d_Bal_reaches_16 k_i1 ?_
      refine zx_goto (pc := 17) hF d_Bal_reaches_17 (tgt := 21) rfl ?_
      exact zx_zret (pc := 21) hF hr hlk rfl (by first | with_reducible rfl | (simp only [f_meets, if_neg h4, if_pos h13]; done) | (simp only [f_meets, h4, h13, ↓reduceIte]; done) | simp [f_meets, h4, h13]) (by first | with_reducible rfl | (simp only [f_meets, if_neg h4, if_pos h13]; done) | (simp only [f_meets, h4, h13, ↓reduceIte]; done) | simp [f_meets, h4, h13]) d_Bal_reaches_21
set_option maxRecDepth 20000 in
theorem M_Bal_serverFor (l : Launch) (D : va_G) (K : Nat → ClassId) (M : List (ClassId × FieldType)) (o0 : Nat) (w0 : Nat) (b0 : Nat) (e0 : Nat) (t0 : Nat) (x0 : Nat) (live : Int32) (e1 : Nat) (e2 : Nat) (e3 : Nat) (a0 : Nat) (a1 : Nat) (a2 : Nat) (a3 : Nat) (src : Nat → Int32) (prt : Nat → Int32) (use : Nat → Int32) (cnt : Int32) (sv : Nat → Int32) (pat : Nat → Int32) (lu : Nat → Int32) (b1 : Nat) (b2 : Nat) (b3 : Nat) (l0 : Nat) (chg : Int32) (m : Nat) (own : Nat → Int32) (s0 : Int32) (p0 : Int32) (j : Nat) (hm : m < 2 ^ 31) (hj : j < m) (sz : Nat) : zM l y_Bal_serverFor (zT y_Bal_serverFor b_Bal_serverFor 5 (some .int)) (zR 2 46) 0 0 D K M [.ref o0, .int s0, .int p0, .int (nI j)] [cO o0 1 [.ref w0, .ref b0, .ref e0, .ref t0, .int live, .ref x0], cO e0 3 [.ref a0, .ref e1, .ref e2, .ref e3], cO a0 6 [.ref a1, .ref a2, .ref a3, .int cnt], cI K a1 8 src, cI K a2 8 prt, cZ K a3 8 use, cI K e1 8 sv, cI K e2 8 pat, cI K e3 8 lu, cO b0 8 [.int chg, .ref l0, .ref b1, .ref b2, .ref b3], cI K b1 m own] sz (zQi D K M (if (if f_find use src prt 8 s0 p0 = -1 then -1 else sv (f_find use src prt 8 s0 p0).toNatClampNeg) = -1 then own j else (if f_find use src prt 8 s0 p0 = -1 then -1 else sv (f_find use src prt 8 s0 p0).toNatClampNeg)) [cO o0 1 [.ref w0, .ref b0, .ref e0, .ref t0, .int live, .ref x0], cO e0 3 [.ref a0, .ref e1, .ref e2, .ref e3], cO a0 6 [.ref a1, .ref a2, .ref a3, .int cnt], cI K a1 8 src, cI K a2 8 prt, cZ K a3 8 use, cI K e1 8 sv, cI K e2 8 pat, cI K e3 8 lu, cO b0 8 [.int chg, .ref l0, .ref b1, .ref b2, .ref b3], cI K b1 m own]) := by
  refine zx_head (by decide) (Nat.le_of_ble_eq_true rfl) ?_
  intro _ _ _ _ _ _ _ _ _ hF hr hlk hnm
  refine zx_aload_n (pc := 0) hF d_Bal_serverFor_0 rfl 0 rfl ?_
  refine zg_Bal_12 (pc := 1) hF 0 rfl rfl d_Bal_serverFor_1 ?_
  refine zx_iload_n (pc := 4) hF d_Bal_serverFor_4 rfl 1 rfl ?_
  refine zx_iload_n (pc := 5) hF d_Bal_serverFor_5 rfl 2 rfl ?_
  refine zx_Vi (pc := 6) hF (As := [.int s0, .int p0]) (rest := []) (fun sz => M_Ent_serverOf l D K M e0 e1 e2 e3 a0 a1 a2 a3 src prt use cnt sv pat lu s0 p0  sz) [1, 2, 3, 4, 5, 6, 7, 8] rfl (by decide) (as := [e0, a0, a1, a2, a3, e1, e2, e3]) rfl rfl (ws' := [cO o0 1 [.ref w0, .ref b0, .ref e0, .ref t0, .int live, .ref x0], cO e0 3 [.ref a0, .ref e1, .ref e2, .ref e3], cO a0 6 [.ref a1, .ref a2, .ref a3, .int cnt], cI K a1 8 src, cI K a2 8 prt, cZ K a3 8 use, cI K e1 8 sv, cI K e2 8 pat, cI K e3 8 lu, cO b0 8 [.int chg, .ref l0, .ref b1, .ref b2, .ref b3], cI K b1 m own]) rfl 0 3 rfl rfl rfl (cw_Bal_70 hF.2.2.2.2.1 rfl rfl ⟨by decide, by decide⟩) rfl rfl (Nat.le_of_ble_eq_true rfl) d_Bal_serverFor_6 ⟨Nat.zero_le _, Nat.zero_le _⟩ ?_
  refine zx_istore (pc := 9) hF (lv' := [(4, .int (if f_find use src prt 8 s0 p0 = -1 then -1 else sv (f_find use src prt 8 s0 p0).toNatClampNeg)), (0, .ref o0), (1, .int s0), (2, .int p0), (3, .int (nI j))]) d_Bal_serverFor_9 (by decide) rfl ?_
  refine zx_iload (pc := 11) hF d_Bal_serverFor_11 0 rfl ?_
  refine zx_iconst (pc := 13) hF d_Bal_serverFor_13 k_im1 ?_
  refine zx_icmp_ne (pc := 14) hF d_Bal_serverFor_14 (tgt := 28) rfl (fun h14 => ?_) (fun h14 => ?_)
  · refine zx_iload (pc := 28) hF d_Bal_serverFor_28 0 rfl ?_
    exact zx_iret (pc := 30) hF hr hlk (by first | rfl | (simp only [if_neg h14]; done) | (simp only [h14, ↓reduceIte]; done) | simp [h14]) (by first | rfl | (simp only [if_neg h14]; done) | (simp only [h14, ↓reduceIte]; done) | simp [h14]) d_Bal_serverFor_30
  · refine zx_aload_n (pc := 17) hF d_Bal_serverFor_17 rfl 1 rfl ?_
    refine zg_Bal_44 (pc := 18) hF 0 rfl rfl d_Bal_serverFor_18 ?_
    refine zx_iload_n (pc := 21) hF d_Bal_serverFor_21 rfl 4 rfl ?_
    refine zx_Vi (pc := 22) hF (As := [.int (nI j)]) (rest := []) (fun sz => M_Tab_serverAt l D K M b0 b1 b2 b3 l0 chg m own j (by first | assumption | omega) (by first | assumption | omega) sz) [9, 10] rfl (by decide) (as := [b0, b1]) rfl rfl (ws' := [cO o0 1 [.ref w0, .ref b0, .ref e0, .ref t0, .int live, .ref x0], cO e0 3 [.ref a0, .ref e1, .ref e2, .ref e3], cO a0 6 [.ref a1, .ref a2, .ref a3, .int cnt], cI K a1 8 src, cI K a2 8 prt, cZ K a3 8 use, cI K e1 8 sv, cI K e2 8 pat, cI K e3 8 lu, cO b0 8 [.int chg, .ref l0, .ref b1, .ref b2, .ref b3], cI K b1 m own]) rfl 0 8 rfl rfl rfl (cw_Bal_74 hF.2.2.2.2.1 rfl rfl ⟨by decide, by decide⟩) rfl rfl (Nat.le_of_ble_eq_true rfl) d_Bal_serverFor_22 ⟨Nat.zero_le _, Nat.zero_le _⟩ ?_
    refine zx_goto (pc := 25) hF d_Bal_serverFor_25 (tgt := 30) rfl ?_
    exact zx_iret (pc := 30) hF hr hlk (by first | rfl | (simp only [if_pos h14]; done) | (simp only [h14, ↓reduceIte]; done) | simp [h14]) (by first | rfl | (simp only [if_pos h14]; done) | (simp only [h14, ↓reduceIte]; done) | simp [h14]) d_Bal_serverFor_30
