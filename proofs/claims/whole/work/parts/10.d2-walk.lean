set_option maxRecDepth 20000 in
theorem M_Dig_digestOf (l : Launch) (D : va_G) (K : Nat → ClassId) (M : List (ClassId × FieldType)) (a0 : Nat) (k0 : Int64) (k1 : Int64) (a : Int64) (b : Int64) (c : Int64) (d : Int64) (x : Int64) (sz : Nat) : zM l y_Dig_digestOf (zT y_Dig_digestOf b_Dig_digestOf 4 (some .long)) (zR 3 64) 0 0 D K M [.ref a0, .long x] [cO a0 2 [.long k0, .long k1, .long a, .long b, .long c, .long d]] sz (zQl D K M (f_dig k0 k1 x) [cO a0 2 [.long k0, .long k1, .long (f_end k0 k1 x).1, .long (f_end k0 k1 x).2.1, .long (f_end k0 k1 x).2.2.1, .long (f_end k0 k1 x).2.2.2]]) := by
  refine zx_head (by decide) (Nat.le_of_ble_eq_true rfl) ?_
  intro _ _ _ _ _ _ _ _ _ hF hr hlk hnm
  refine zx_aload_n (pc := 0) hF d_Dig_digestOf_0 rfl 0 rfl ?_
  refine zx_aload_n (pc := 1) hF d_Dig_digestOf_1 rfl 0 rfl ?_
  refine zg_Dig_7 (pc := 2) hF 0 rfl rfl d_Dig_digestOf_2 ?_
  refine zx_ldc2 (pc := 5) hF wk_Dig_16 d_Dig_digestOf_5 ?_
  refine zx_lxor (pc := 8) hF d_Dig_digestOf_8 ?_
  refine zp_Dig_18 (pc := 9) hF 0 rfl (Nat.le_of_ble_eq_true rfl) d_Dig_digestOf_9 (ws' := [cO a0 2 [.long k0, .long k1, .long (k0 ^^^ 8317987319222330741), .long b, .long c, .long d]]) rfl ?_
  refine zx_aload_n (pc := 12) hF d_Dig_digestOf_12 rfl 0 rfl ?_
  refine zx_aload_n (pc := 13) hF d_Dig_digestOf_13 rfl 0 rfl ?_
  refine zg_Dig_13 (pc := 14) hF 0 rfl rfl d_Dig_digestOf_14 ?_
  refine zx_ldc2 (pc := 17) hF wk_Dig_21 d_Dig_digestOf_17 ?_
  refine zx_lxor (pc := 20) hF d_Dig_digestOf_20 ?_
  refine zp_Dig_23 (pc := 21) hF 0 rfl (Nat.le_of_ble_eq_true rfl) d_Dig_digestOf_21 (ws' := [cO a0 2 [.long k0, .long k1, .long (k0 ^^^ 8317987319222330741), .long (k1 ^^^ 7237128888997146477), .long c, .long d]]) rfl ?_
  refine zx_aload_n (pc := 24) hF d_Dig_digestOf_24 rfl 0 rfl ?_
  refine zx_aload_n (pc := 25) hF d_Dig_digestOf_25 rfl 0 rfl ?_
  refine zg_Dig_7 (pc := 26) hF 0 rfl rfl d_Dig_digestOf_26 ?_
  refine zx_ldc2 (pc := 29) hF wk_Dig_26 d_Dig_digestOf_29 ?_
  refine zx_lxor (pc := 32) hF d_Dig_digestOf_32 ?_
  refine zp_Dig_28 (pc := 33) hF 0 rfl (Nat.le_of_ble_eq_true rfl) d_Dig_digestOf_33 (ws' := [cO a0 2 [.long k0, .long k1, .long (k0 ^^^ 8317987319222330741), .long (k1 ^^^ 7237128888997146477), .long (k0 ^^^ 7816392313619706465), .long d]]) rfl ?_
  refine zx_aload_n (pc := 36) hF d_Dig_digestOf_36 rfl 0 rfl ?_
  refine zx_aload_n (pc := 37) hF d_Dig_digestOf_37 rfl 0 rfl ?_
  refine zg_Dig_13 (pc := 38) hF 0 rfl rfl d_Dig_digestOf_38 ?_
  refine zx_ldc2 (pc := 41) hF wk_Dig_31 d_Dig_digestOf_41 ?_
  refine zx_lxor (pc := 44) hF d_Dig_digestOf_44 ?_
  refine zp_Dig_33 (pc := 45) hF 0 rfl (Nat.le_of_ble_eq_true rfl) d_Dig_digestOf_45 (ws' := [cO a0 2 [.long k0, .long k1, .long (k0 ^^^ 8317987319222330741), .long (k1 ^^^ 7237128888997146477), .long (k0 ^^^ 7816392313619706465), .long (k1 ^^^ 8387220255154660723)]]) rfl ?_
  refine zx_aload_n (pc := 48) hF d_Dig_digestOf_48 rfl 0 rfl ?_
  refine zx_lload_n (pc := 49) hF d_Dig_digestOf_49 rfl 1 rfl ?_
  refine zx_eq (ws' := [cO a0 2 [.long k0, .long k1, .long (f_ini k0 k1).1, .long (f_ini k0 k1).2.1, .long (f_ini k0 k1).2.2.1, .long (f_ini k0 k1).2.2.2]]) (lv' := [(0, .ref a0), (1, .long x)]) rfl rfl rfl ?_
  refine zx_Vv (pc := 50) hF (As := [.long x]) (rest := []) (fun sz => M_Dig_takeIn l D K M a0 k0 k1 (f_ini k0 k1) x  sz) [0] rfl (by decide) (as := [a0]) rfl rfl (ws' := [cO a0 2 [.long k0, .long k1, .long (f_in x (f_ini k0 k1)).1, .long (f_in x (f_ini k0 k1)).2.1, .long (f_in x (f_ini k0 k1)).2.2.1, .long (f_in x (f_ini k0 k1)).2.2.2]]) rfl 0 2 rfl rfl rfl (cw_Dig_36 hF.2.2.2.2.1 rfl rfl ⟨by decide, by decide⟩) rfl rfl (Nat.le_of_ble_eq_true rfl) d_Dig_digestOf_50 ⟨Nat.zero_le _, Nat.zero_le _⟩ ?_
  refine zx_aload_n (pc := 53) hF d_Dig_digestOf_53 rfl 0 rfl ?_
  refine zx_ldc2 (pc := 54) hF wk_Dig_40 d_Dig_digestOf_54 ?_
  refine zx_Vv (pc := 57) hF (As := [.long 576460752303423488]) (rest := []) (fun sz => M_Dig_takeIn l D K M a0 k0 k1 (f_in x (f_ini k0 k1)) 576460752303423488  sz) [0] rfl (by decide) (as := [a0]) rfl rfl (ws' := [cO a0 2 [.long k0, .long k1, .long (f_in 576460752303423488 (f_in x (f_ini k0 k1))).1, .long (f_in 576460752303423488 (f_in x (f_ini k0 k1))).2.1, .long (f_in 576460752303423488 (f_in x (f_ini k0 k1))).2.2.1, .long (f_in 576460752303423488 (f_in x (f_ini k0 k1))).2.2.2]]) rfl 0 2 rfl rfl rfl (cw_Dig_36 hF.2.2.2.2.1 rfl rfl ⟨by decide, by decide⟩) rfl rfl (Nat.le_of_ble_eq_true rfl) d_Dig_digestOf_57 ⟨Nat.zero_le _, Nat.zero_le _⟩ ?_
  refine zx_aload_n (pc := 60) hF d_Dig_digestOf_60 rfl 0 rfl ?_
  refine zx_dup (pc := 61) hF d_Dig_digestOf_61 rfl ?_
  refine zg_Dig_28 (pc := 62) hF 0 rfl rfl d_Dig_digestOf_62 ?_
  refine zx_ldc2 (pc := 65) hF wk_Dig_42 d_Dig_digestOf_65 ?_
  refine zx_lxor (pc := 68) hF d_Dig_digestOf_68 ?_
  refine zp_Dig_28 (pc := 69) hF 0 rfl (Nat.le_of_ble_eq_true rfl) d_Dig_digestOf_69 (ws' := [cO a0 2 [.long k0, .long k1, .long (f_in 576460752303423488 (f_in x (f_ini k0 k1))).1, .long (f_in 576460752303423488 (f_in x (f_ini k0 k1))).2.1, .long ((f_in 576460752303423488 (f_in x (f_ini k0 k1))).2.2.1 ^^^ 255), .long (f_in 576460752303423488 (f_in x (f_ini k0 k1))).2.2.2]]) rfl ?_
  refine zx_iconst (pc := 72) hF d_Dig_digestOf_72 k_i0 ?_
  refine zx_istore_n (pc := 73) hF (lv' := [(3, .int 0), (0, .ref a0), (1, .long x)]) d_Dig_digestOf_73 rfl (by decide) rfl ?_
  refine zx_eq (ws' := [cO a0 2 [.long k0, .long k1, .long (f_mid k0 k1 x).1, .long (f_mid k0 k1 x).2.1, .long ((f_mid k0 k1 x).2.2.1 ^^^ 255), .long (f_mid k0 k1 x).2.2.2]]) (lv' := [(3, .int 0), (0, .ref a0), (1, .long x)]) rfl rfl rfl ?_
  refine zx_lv [1, 0] (lv' := [(0, .ref a0), (3, .int 0)]) rfl ?_
  refine zx_loop (pc := 74) (σ := Nat × Int64 × Int64 × Int64 × Int64) (fun k zv => (zv.1 + k = 4) ∧ (f_iter k (zv.2.1, zv.2.2.1, zv.2.2.2.1, zv.2.2.2.2) = f_end k0 k1 x)) (fun zv => [cO a0 2 [.long k0, .long k1, .long zv.2.1, .long zv.2.2.1, .long zv.2.2.2.1, .long zv.2.2.2.2]]) (fun zv => [(0, .ref a0), (3, .int (nI zv.1))]) 4 (0, (f_mid k0 k1 x).1, (f_mid k0 k1 x).2.1, (f_mid k0 k1 x).2.2.1 ^^^ 255, (f_mid k0 k1 x).2.2.2) ⟨rfl, rfl⟩ rfl rfl ?_
  intro k zv hI ih
  obtain ⟨j, a, b, c, d⟩ := zv
  obtain ⟨hk, hX⟩ := hI
  replace hk : j + k = 4 := hk
  replace hX : f_iter k (a, b, c, d) = f_end k0 k1 x := hX
  refine zx_eq (ws' := [cO a0 2 [.long k0, .long k1, .long a, .long b, .long c, .long d]]) (lv' := [(0, .ref a0), (3, .int (nI j))]) rfl rfl rfl ?_
  refine zx_iload_n (pc := 74) hF d_Dig_digestOf_74 rfl 1 rfl ?_
  refine zx_iconst (pc := 75) hF d_Dig_digestOf_75 k_i4 ?_
  refine zx_icmp_ge (pc := 76) hF d_Dig_digestOf_76 (tgt := 89) rfl (fun h76 => ?_) (fun h76 => ?_)
  · replace h76 : 4 ≤ j := (nI_leI (a := 4) (b := j) (by omega) (by omega)).mp h76
    obtain rfl : k = 0 := (by omega)
    replace hX : (a, b, c, d) = f_end k0 k1 x := hX
    refine zx_aload_n (pc := 89) hF d_Dig_digestOf_89 rfl 0 rfl ?_
    refine zg_Dig_18 (pc := 90) hF 0 rfl rfl d_Dig_digestOf_90 ?_
    refine zx_aload_n (pc := 93) hF d_Dig_digestOf_93 rfl 0 rfl ?_
    refine zg_Dig_23 (pc := 94) hF 0 rfl rfl d_Dig_digestOf_94 ?_
    refine zx_lxor (pc := 97) hF d_Dig_digestOf_97 ?_
    refine zx_aload_n (pc := 98) hF d_Dig_digestOf_98 rfl 0 rfl ?_
    refine zg_Dig_28 (pc := 99) hF 0 rfl rfl d_Dig_digestOf_99 ?_
    refine zx_lxor (pc := 102) hF d_Dig_digestOf_102 ?_
    refine zx_aload_n (pc := 103) hF d_Dig_digestOf_103 rfl 0 rfl ?_
    refine zg_Dig_33 (pc := 104) hF 0 rfl rfl d_Dig_digestOf_104 ?_
    refine zx_lxor (pc := 107) hF d_Dig_digestOf_107 ?_
    exact zx_lret (pc := 108) hF hr hlk (by show _ = f_dig k0 k1 x; unfold f_dig; rw [← hX]) (by rw [← hX]) d_Dig_digestOf_108
  · replace h76 : ¬ 4 ≤ j := fun z => h76 ((nI_leI (a := 4) (b := j) (by omega) (by omega)).mpr z)
    refine zx_aload_n (pc := 79) hF d_Dig_digestOf_79 rfl 0 rfl ?_
    refine zx_Vv (pc := 80) hF (As := []) (rest := []) (fun sz => M_Dig_round l D K M a0 k0 k1 a b c d  sz) [0] rfl (by decide) (as := [a0]) rfl rfl (ws' := [cO a0 2 [.long k0, .long k1, .long (f_ra a b c d), .long (f_rb a b c d), .long (f_rc a b c d), .long (f_rd a b c d)]]) rfl 0 2 rfl rfl rfl (cw_Dig_44 hF.2.2.2.2.1 rfl rfl ⟨by decide, by decide⟩) rfl rfl (Nat.le_of_ble_eq_true rfl) d_Dig_digestOf_80 ⟨Nat.zero_le _, Nat.zero_le _⟩ ?_
    refine zx_iinc (pc := 83) hF (v := nI (j + 1)) (lv' := [(3, .int (nI (j + 1))), (0, .ref a0)]) d_Dig_digestOf_83 1 rfl (zinc j) (by decide) rfl ?_
    refine zx_goto (pc := 86) hF d_Dig_digestOf_86 (tgt := 74) rfl ?_
    refine zx_lv [1, 0] (lv' := [(0, .ref a0), (3, .int (nI (j + 1)))]) rfl ?_
    exact ih (k - 1) (j + 1, f_ra a b c d, f_rb a b c d, f_rc a b c d, f_rd a b c d) (by omega) ⟨by first | omega | (dsimp only; omega) | dsimp only, by obtain ⟨k', rfl⟩ : ∃ k', k = k' + 1 := ⟨k - 1, by omega⟩; exact hX⟩
set_option maxRecDepth 20000 in
theorem M_Wat_isUp (l : Launch) (D : va_G) (K : Nat → ClassId) (M : List (ClassId × FieldType)) (a0 : Nat) (a1 : Nat) (a2 : Nat) (n : Nat) (up : Nat → Int32) (con : Nat → Int32) (j : Nat) (hj : j < n) (hn : n < 2 ^ 31) (hu : z01 up) (sz : Nat) : zM l y_Wat_isUp (zT y_Wat_isUp b_Wat_isUp 2 (some .boolean)) (zR 0 0) 0 0 D K M [.ref a0, .int (nI j)] [cO a0 9 [.ref a1, .ref a2], cZ K a1 n up, cI K a2 n con] sz (zQi D K M (up j) [cO a0 9 [.ref a1, .ref a2], cZ K a1 n up, cI K a2 n con]) := by
  refine zx_head (by decide) (Nat.le_of_ble_eq_true rfl) ?_
  intro _ _ _ _ _ _ _ _ _ hF hr hlk hnm
  refine zx_aload_n (pc := 0) hF d_Wat_isUp_0 rfl 0 rfl ?_
  refine zg_Wat_7 (pc := 1) hF 0 rfl rfl d_Wat_isUp_1 ?_
  refine zx_iload_n (pc := 4) hF d_Wat_isUp_4 rfl 1 rfl ?_
  refine zx_zaldn (pc := 5) hF (i := j) 1 rfl (by omega) (by omega) d_Wat_isUp_5 ?_
  exact zx_zret (pc := 6) hF hr hlk (zbool (hu j)).1 rfl rfl d_Wat_isUp_6
set_option maxRecDepth 20000 in
theorem M_Wat_stateOf (l : Launch) (D : va_G) (K : Nat → ClassId) (M : List (ClassId × FieldType)) (a0 : Nat) (a1 : Nat) (a2 : Nat) (n : Nat) (up : Nat → Int32) (con : Nat → Int32) (j : Nat) (hj : j < n) (hn : n < 2 ^ 31) (sz : Nat) : zM l y_Wat_stateOf (zT y_Wat_stateOf b_Wat_stateOf 2 (some .int)) (zR 0 0) 0 0 D K M [.ref a0, .int (nI j)] [cO a0 9 [.ref a1, .ref a2], cZ K a1 n up, cI K a2 n con] sz (zQi D K M (if up j = 0 then 10 + con j else con j) [cO a0 9 [.ref a1, .ref a2], cZ K a1 n up, cI K a2 n con]) := by
  refine zx_head (by decide) (Nat.le_of_ble_eq_true rfl) ?_
  intro _ _ _ _ _ _ _ _ _ hF hr hlk hnm
  refine zx_aload_n (pc := 0) hF d_Wat_stateOf_0 rfl 0 rfl ?_
  refine zg_Wat_7 (pc := 1) hF 0 rfl rfl d_Wat_stateOf_1 ?_
  refine zx_iload_n (pc := 4) hF d_Wat_stateOf_4 rfl 1 rfl ?_
  refine zx_zaldn (pc := 5) hF (i := j) 1 rfl (by omega) (by omega) d_Wat_stateOf_5 ?_
  refine zx_if_eq (pc := 6) hF d_Wat_stateOf_6 (tgt := 18) rfl (fun h6 => ?_) (fun h6 => ?_)
  · refine zx_bipush (pc := 18) hF d_Wat_stateOf_18 k_b10 ?_
    refine zx_aload_n (pc := 20) hF d_Wat_stateOf_20 rfl 0 rfl ?_
    refine zg_Wat_13 (pc := 21) hF 0 rfl rfl d_Wat_stateOf_21 ?_
    refine zx_iload_n (pc := 24) hF d_Wat_stateOf_24 rfl 1 rfl ?_
    refine zx_ialdn (pc := 25) hF (i := j) 2 rfl (by omega) (by omega) d_Wat_stateOf_25 ?_
    refine zx_iadd (pc := 26) hF d_Wat_stateOf_26 ?_
    exact zx_iret (pc := 27) hF hr hlk (by first | rfl | (simp only [if_pos h6]; done) | (simp only [h6, ↓reduceIte]; done) | simp [h6]) (by first | rfl | (simp only [if_pos h6]; done) | (simp only [h6, ↓reduceIte]; done) | simp [h6]) d_Wat_stateOf_27
  · refine zx_aload_n (pc := 9) hF d_Wat_stateOf_9 rfl 0 rfl ?_
    refine zg_Wat_13 (pc := 10) hF 0 rfl rfl d_Wat_stateOf_10 ?_
    refine zx_iload_n (pc := 13) hF d_Wat_stateOf_13 rfl 1 rfl ?_
    refine zx_ialdn (pc := 14) hF (i := j) 2 rfl (by omega) (by omega) d_Wat_stateOf_14 ?_
    refine zx_goto (pc := 15) hF d_Wat_stateOf_15 (tgt := 27) rfl ?_
    exact zx_iret (pc := 27) hF hr hlk (by first | rfl | (simp only [if_neg h6]; done) | (simp only [h6, ↓reduceIte]; done) | simp [h6]) (by first | rfl | (simp only [if_neg h6]; done) | (simp only [h6, ↓reduceIte]; done) | simp [h6]) d_Wat_stateOf_27
set_option maxRecDepth 20000 in
theorem M_Wat_observe (l : Launch) (D : va_G) (K : Nat → ClassId) (M : List (ClassId × FieldType)) (a0 : Nat) (a1 : Nat) (a2 : Nat) (n : Nat) (up : Nat → Int32) (con : Nat → Int32) (j : Nat) (ans : Int32) (hj : j < n) (hn : n < 2 ^ 31) (ha : ans = 0 ∨ ans = 1) (sz : Nat) : zM l y_Wat_observe (zT y_Wat_observe b_Wat_observe 3 (some .boolean)) (zR 0 0) 0 0 D K M [.ref a0, .int (nI j), .int ans] [cO a0 9 [.ref a1, .ref a2], cZ K a1 n up, cI K a2 n con] sz (zQi D K M (f_or up con j ans) [cO a0 9 [.ref a1, .ref a2], cZ K a1 n (f_ou up con j ans), cI K a2 n (f_on up con j ans)]) := by
  refine zx_head (by decide) (Nat.le_of_ble_eq_true rfl) ?_
  intro _ _ _ _ _ _ _ _ _ hF hr hlk hnm
  refine zx_aload_n (pc := 0) hF d_Wat_observe_0 rfl 0 rfl ?_
  refine zg_Wat_13 (pc := 1) hF 0 rfl rfl d_Wat_observe_1 ?_
  refine zx_iload_n (pc := 4) hF d_Wat_observe_4 rfl 1 rfl ?_
  refine zx_iload_n (pc := 5) hF d_Wat_observe_5 rfl 2 rfl ?_
  refine zx_aload_n (pc := 6) hF d_Wat_observe_6 rfl 0 rfl ?_
  refine zg_Wat_7 (pc := 7) hF 0 rfl rfl d_Wat_observe_7 ?_
  refine zx_iload_n (pc := 10) hF d_Wat_observe_10 rfl 1 rfl ?_
  refine zx_zaldn (pc := 11) hF (i := j) 1 rfl (by omega) (by omega) d_Wat_observe_11 ?_
  refine zx_icmp_ne (pc := 12) hF d_Wat_observe_12 (tgt := 19) rfl (fun h12 => ?_) (fun h12 => ?_)
  · refine zx_aload_n (pc := 19) hF d_Wat_observe_19 rfl 0 rfl ?_
    refine zg_Wat_13 (pc := 20) hF 0 rfl rfl d_Wat_observe_20 ?_
    refine zx_iload_n (pc := 23) hF d_Wat_observe_23 rfl 1 rfl ?_
    refine zx_ialdn (pc := 24) hF (i := j) 2 rfl (by omega) (by omega) d_Wat_observe_24 ?_
    refine zx_iconst (pc := 25) hF d_Wat_observe_25 k_i1 ?_
    refine zx_iadd (pc := 26) hF d_Wat_observe_26 ?_
    refine zx_iastn (pc := 27) hF (i := j) 2 rfl (by omega) (by omega) d_Wat_observe_27 (ws' := [cO a0 9 [.ref a1, .ref a2], cZ K a1 n up, cI K a2 n (upd con j ((con j) + 1))]) rfl ?_
    refine zx_aload_n (pc := 28) hF d_Wat_observe_28 rfl 0 rfl ?_
    refine zg_Wat_13 (pc := 29) hF 0 rfl rfl d_Wat_observe_29 ?_
    refine zx_iload_n (pc := 32) hF d_Wat_observe_32 rfl 1 rfl ?_
    refine zx_ialdn (pc := 33) hF (i := j) 2 rfl (by omega) (by omega) d_Wat_observe_33 ?_
    refine zx_topi ((con j) + 1) (pk_us) ?_
    refine zx_iconst (pc := 34) hF d_Wat_observe_34 k_i3 ?_
    refine zx_icmp_ge (pc := 35) hF d_Wat_observe_35 (tgt := 40) rfl (fun h35 => ?_) (fun h35 => ?_)
    · refine zx_aload_n (pc := 40) hF d_Wat_observe_40 rfl 0 rfl ?_
      refine zg_Wat_7 (pc := 41) hF 0 rfl rfl d_Wat_observe_41 ?_
      refine zx_iload_n (pc := 44) hF d_Wat_observe_44 rfl 1 rfl ?_
      refine zx_iload_n (pc := 45) hF d_Wat_observe_45 rfl 2 rfl ?_
      refine zx_zastn (pc := 46) hF (i := j) 1 rfl (by omega) (by omega) (znar ha) d_Wat_observe_46 (ws' := [cO a0 9 [.ref a1, .ref a2], cZ K a1 n (upd up j ans), cI K a2 n (upd con j ((con j) + 1))]) rfl ?_
      refine zx_aload_n (pc := 47) hF d_Wat_observe_47 rfl 0 rfl ?_
      refine zg_Wat_13 (pc := 48) hF 0 rfl rfl d_Wat_observe_48 ?_
      refine zx_iload_n (pc := 51) hF d_Wat_observe_51 rfl 1 rfl ?_
      refine zx_iconst (pc := 52) hF d_Wat_observe_52 k_i0 ?_
      refine zx_iastn (pc := 53) hF (i := j) 2 rfl (by omega) (by omega) d_Wat_observe_53 (ws' := [cO a0 9 [.ref a1, .ref a2], cZ K a1 n (upd up j ans), cI K a2 n (upd (upd con j ((con j) + 1)) j 0)]) rfl ?_
      refine zx_iconst (pc := 54) hF d_Wat_observe_54 k_i1 ?_
      exact zx_zret (pc := 55) hF hr hlk rfl (by first | with_reducible rfl | (simp only [f_or, f_ou, f_on, f_oc, if_neg h12, if_pos h35]; done) | (simp only [f_or, f_ou, f_on, f_oc, h12, h35, ↓reduceIte]; done) | simp [f_or, f_ou, f_on, f_oc, h12, h35]) (by first | with_reducible rfl | (simp only [f_or, f_ou, f_on, f_oc, if_neg h12, if_pos h35]; done) | (simp only [f_or, f_ou, f_on, f_oc, h12, h35, ↓reduceIte]; done) | simp [f_or, f_ou, f_on, f_oc, h12, h35]) d_Wat_observe_55
    · refine zx_iconst (pc := 38) hF d_Wat_observe_38 k_i0 ?_
      exact zx_zret (pc := 39) hF hr hlk rfl (by first | with_reducible rfl | (simp only [f_or, f_ou, f_on, f_oc, if_neg h12, if_neg h35]; done) | (simp only [f_or, f_ou, f_on, f_oc, h12, h35, ↓reduceIte]; done) | simp [f_or, f_ou, f_on, f_oc, h12, h35]) (by first | with_reducible rfl | (simp only [f_or, f_ou, f_on, f_oc, if_neg h12, if_neg h35]; done) | (simp only [f_or, f_ou, f_on, f_oc, h12, h35, ↓reduceIte]; done) | simp [f_or, f_ou, f_on, f_oc, h12, h35]) d_Wat_observe_39
  · refine zx_iconst (pc := 15) hF d_Wat_observe_15 k_i0 ?_
    refine zx_goto (pc := 16) hF d_Wat_observe_16 (tgt := 27) rfl ?_
    refine zx_iastn (pc := 27) hF (i := j) 2 rfl (by omega) (by omega) d_Wat_observe_27 (ws' := [cO a0 9 [.ref a1, .ref a2], cZ K a1 n up, cI K a2 n (upd con j 0)]) rfl ?_
    refine zx_aload_n (pc := 28) hF d_Wat_observe_28 rfl 0 rfl ?_
    refine zg_Wat_13 (pc := 29) hF 0 rfl rfl d_Wat_observe_29 ?_
    refine zx_iload_n (pc := 32) hF d_Wat_observe_32 rfl 1 rfl ?_
    refine zx_ialdn (pc := 33) hF (i := j) 2 rfl (by omega) (by omega) d_Wat_observe_33 ?_
    refine zx_topi 0 (pk_us) ?_
    refine zx_iconst (pc := 34) hF d_Wat_observe_34 k_i3 ?_
    refine zx_icmp_ge (pc := 35) hF d_Wat_observe_35 (tgt := 40) rfl (fun h35 => ?_) (fun h35 => ?_)
    · exact absurd h35 (by decide)
    · refine zx_iconst (pc := 38) hF d_Wat_observe_38 k_i0 ?_
      exact zx_zret (pc := 39) hF hr hlk rfl (by first | with_reducible rfl | (simp only [f_or, f_ou, f_on, f_oc, if_pos h12]; done) | (simp only [f_or, f_ou, f_on, f_oc, h12, ↓reduceIte]; done) | simp [f_or, f_ou, f_on, f_oc, h12]) (by first | with_reducible rfl | (simp only [f_or, f_ou, f_on, f_oc, if_pos h12]; done) | (simp only [f_or, f_ou, f_on, f_oc, h12, ↓reduceIte]; done) | simp [f_or, f_ou, f_on, f_oc, h12]) d_Wat_observe_39
set_option maxRecDepth 20000 in
theorem M_Slo_used (l : Launch) (D : va_G) (K : Nat → ClassId) (M : List (ClassId × FieldType)) (a0 : Nat) (a1 : Nat) (a2 : Nat) (a3 : Nat) (n : Nat) (src : Nat → Int32) (prt : Nat → Int32) (use : Nat → Int32) (cnt : Int32) (sz : Nat) : zM l y_Slo_used (zT y_Slo_used b_Slo_used 1 (some .int)) (zR 0 0) 0 0 D K M [.ref a0] [cO a0 6 [.ref a1, .ref a2, .ref a3, .int cnt], cI K a1 n src, cI K a2 n prt, cZ K a3 n use] sz (zQi D K M cnt [cO a0 6 [.ref a1, .ref a2, .ref a3, .int cnt], cI K a1 n src, cI K a2 n prt, cZ K a3 n use]) := by
  refine zx_head (by decide) (Nat.le_of_ble_eq_true rfl) ?_
  intro _ _ _ _ _ _ _ _ _ hF hr hlk hnm
  refine zx_aload_n (pc := 0) hF d_Slo_used_0 rfl 0 rfl ?_
  refine zg_Slo_22 (pc := 1) hF 0 rfl rfl d_Slo_used_1 ?_
  exact zx_iret (pc := 4) hF hr hlk (by first | rfl | (simp only []; done) | (simp only [↓reduceIte]; done) | simp []) (by first | rfl | (simp only []; done) | (simp only [↓reduceIte]; done) | simp []) d_Slo_used_4
set_option maxRecDepth 20000 in
theorem M_Slo_find (l : Launch) (D : va_G) (K : Nat → ClassId) (M : List (ClassId × FieldType)) (a0 : Nat) (a1 : Nat) (a2 : Nat) (a3 : Nat) (n : Nat) (src : Nat → Int32) (prt : Nat → Int32) (use : Nat → Int32) (cnt : Int32) (s0 : Int32) (p0 : Int32) (hn : n < 2 ^ 31) (sz : Nat) : zM l y_Slo_find (zT y_Slo_find b_Slo_find 4 (some .int)) (zR 0 0) 0 0 D K M [.ref a0, .int s0, .int p0] [cO a0 6 [.ref a1, .ref a2, .ref a3, .int cnt], cI K a1 n src, cI K a2 n prt, cZ K a3 n use] sz (zQi D K M (f_find use src prt n s0 p0) [cO a0 6 [.ref a1, .ref a2, .ref a3, .int cnt], cI K a1 n src, cI K a2 n prt, cZ K a3 n use]) := by
  refine zx_head (by decide) (Nat.le_of_ble_eq_true rfl) ?_
  intro _ _ _ _ _ _ _ _ _ hF hr hlk hnm
  refine zx_iconst (pc := 0) hF d_Slo_find_0 k_i0 ?_
  refine zx_istore_n (pc := 1) hF (lv' := [(3, .int 0), (0, .ref a0), (1, .int s0), (2, .int p0)]) d_Slo_find_1 rfl (by decide) rfl ?_
  refine zx_lv [1, 2, 3, 0] (lv' := [(0, .ref a0), (1, .int s0), (2, .int p0), (3, .int 0)]) rfl ?_
  refine zx_loop (pc := 2) (σ := Nat) (fun k zv => (zv + k = n) ∧ (f_first (f_same use src prt s0 p0) k zv = f_find use src prt n s0 p0)) (fun zv => [cO a0 6 [.ref a1, .ref a2, .ref a3, .int cnt], cI K a1 n src, cI K a2 n prt, cZ K a3 n use]) (fun zv => [(0, .ref a0), (1, .int s0), (2, .int p0), (3, .int (nI zv))]) n 0 ⟨by first | omega | (dsimp only; omega) | dsimp only, rfl⟩ rfl rfl ?_
  intro k j hI ih
  obtain ⟨hk, hX⟩ := hI
  replace hk : j + k = n := hk
  replace hX : f_first (f_same use src prt s0 p0) k j = f_find use src prt n s0 p0 := hX
  refine zx_eq (ws' := [cO a0 6 [.ref a1, .ref a2, .ref a3, .int cnt], cI K a1 n src, cI K a2 n prt, cZ K a3 n use]) (lv' := [(0, .ref a0), (1, .int s0), (2, .int p0), (3, .int (nI j))]) rfl rfl rfl ?_
  refine zx_iload_n (pc := 2) hF d_Slo_find_2 rfl 3 rfl ?_
  refine zx_aload_n (pc := 3) hF d_Slo_find_3 rfl 0 rfl ?_
  refine zg_Slo_18 (pc := 4) hF 0 rfl rfl d_Slo_find_4 ?_
  refine zx_alen (pc := 7) hF 3 1 rfl rfl (v := nI n) rfl d_Slo_find_7 ?_
  refine zx_icmp_ge (pc := 8) hF d_Slo_find_8 (tgt := 48) rfl (fun h8 => ?_) (fun h8 => ?_)
  · replace h8 : n ≤ j := (nI_leI (a := n) (b := j) (by omega) (by omega)).mp h8
    refine zx_iconst (pc := 48) hF d_Slo_find_48 k_im1 ?_
    exact zx_iret (pc := 49) hF hr hlk (by obtain rfl : k = 0 := (by omega); exact hX) rfl d_Slo_find_49
  · replace h8 : ¬ n ≤ j := fun z => h8 ((nI_leI (a := n) (b := j) (by omega) (by omega)).mpr z)
    refine zx_aload_n (pc := 11) hF d_Slo_find_11 rfl 0 rfl ?_
    refine zg_Slo_18 (pc := 12) hF 0 rfl rfl d_Slo_find_12 ?_
    refine zx_iload_n (pc := 15) hF d_Slo_find_15 rfl 3 rfl ?_
    refine zx_zaldn (pc := 16) hF (i := j) 3 rfl (by omega) (by omega) d_Slo_find_16 ?_
    refine zx_if_eq (pc := 17) hF d_Slo_find_17 (tgt := 42) rfl (fun h17 => ?_) (fun h17 => ?_)
    · refine zx_iinc (pc := 42) hF (v := nI (j + 1)) (lv' := [(3, .int (nI (j + 1))), (0, .ref a0), (1, .int s0), (2, .int p0)]) d_Slo_find_42 3 rfl (zinc j) (by decide) rfl ?_
      refine zx_goto (pc := 45) hF d_Slo_find_45 (tgt := 2) rfl ?_
      refine zx_lv [1, 2, 3, 0] (lv' := [(0, .ref a0), (1, .int s0), (2, .int p0), (3, .int (nI (j + 1)))]) rfl ?_
      exact ih (k - 1) (j + 1) (by omega) ⟨by first | omega | (dsimp only; omega) | dsimp only, by obtain ⟨k', rfl⟩ : ∃ k', k = k' + 1 := ⟨k - 1, by omega⟩; simpa [f_first, f_same, h8, h17] using hX⟩
    · refine zx_aload_n (pc := 20) hF d_Slo_find_20 rfl 0 rfl ?_
      refine zg_Slo_9 (pc := 21) hF 0 rfl rfl d_Slo_find_21 ?_
      refine zx_iload_n (pc := 24) hF d_Slo_find_24 rfl 3 rfl ?_
      refine zx_ialdn (pc := 25) hF (i := j) 1 rfl (by omega) (by omega) d_Slo_find_25 ?_
      refine zx_iload_n (pc := 26) hF d_Slo_find_26 rfl 1 rfl ?_
      refine zx_icmp_ne (pc := 27) hF d_Slo_find_27 (tgt := 42) rfl (fun h27 => ?_) (fun h27 => ?_)
      · refine zx_iinc (pc := 42) hF (v := nI (j + 1)) (lv' := [(3, .int (nI (j + 1))), (0, .ref a0), (1, .int s0), (2, .int p0)]) d_Slo_find_42 3 rfl (zinc j) (by decide) rfl ?_
        refine zx_goto (pc := 45) hF d_Slo_find_45 (tgt := 2) rfl ?_
        refine zx_lv [1, 2, 3, 0] (lv' := [(0, .ref a0), (1, .int s0), (2, .int p0), (3, .int (nI (j + 1)))]) rfl ?_
        exact ih (k - 1) (j + 1) (by omega) ⟨by first | omega | (dsimp only; omega) | dsimp only, by obtain ⟨k', rfl⟩ : ∃ k', k = k' + 1 := ⟨k - 1, by omega⟩; simpa [f_first, f_same, h8, h17, h27] using hX⟩
      · refine zx_aload_n (pc := 30) hF d_Slo_find_30 rfl 0 rfl ?_
        refine zg_Slo_15 (pc := 31) hF 0 rfl rfl d_Slo_find_31 ?_
        refine zx_iload_n (pc := 34) hF d_Slo_find_34 rfl 3 rfl ?_
        refine zx_ialdn (pc := 35) hF (i := j) 2 rfl (by omega) (by omega) d_Slo_find_35 ?_
        refine zx_iload_n (pc := 36) hF d_Slo_find_36 rfl 2 rfl ?_
        refine zx_icmp_ne (pc := 37) hF d_Slo_find_37 (tgt := 42) rfl (fun h37 => ?_) (fun h37 => ?_)
        · refine zx_iinc (pc := 42) hF (v := nI (j + 1)) (lv' := [(3, .int (nI (j + 1))), (0, .ref a0), (1, .int s0), (2, .int p0)]) d_Slo_find_42 3 rfl (zinc j) (by decide) rfl ?_
          refine zx_goto (pc := 45) hF d_Slo_find_45 (tgt := 2) rfl ?_
          refine zx_lv [1, 2, 3, 0] (lv' := [(0, .ref a0), (1, .int s0), (2, .int p0), (3, .int (nI (j + 1)))]) rfl ?_
          exact ih (k - 1) (j + 1) (by omega) ⟨by first | omega | (dsimp only; omega) | dsimp only, by obtain ⟨k', rfl⟩ : ∃ k', k = k' + 1 := ⟨k - 1, by omega⟩; simpa [f_first, f_same, h8, h17, h27, h37] using hX⟩
        · refine zx_iload_n (pc := 40) hF d_Slo_find_40 rfl 3 rfl ?_
          exact zx_iret (pc := 41) hF hr hlk (by obtain ⟨k', rfl⟩ : ∃ k', k = k' + 1 := ⟨k - 1, by omega⟩; simpa [f_first, f_same, h8, h17, h27, h37] using hX) rfl d_Slo_find_41
set_option maxRecDepth 20000 in
theorem M_Slo_release (l : Launch) (D : va_G) (K : Nat → ClassId) (M : List (ClassId × FieldType)) (a0 : Nat) (a1 : Nat) (a2 : Nat) (a3 : Nat) (n : Nat) (src : Nat → Int32) (prt : Nat → Int32) (use : Nat → Int32) (cnt : Int32) (j : Nat) (hj : j < n) (hn : n < 2 ^ 31) (sz : Nat) : zM l y_Slo_release (zT y_Slo_release b_Slo_release 2 none) (zR 0 0) 0 0 D K M [.ref a0, .int (nI j)] [cO a0 6 [.ref a1, .ref a2, .ref a3, .int cnt], cI K a1 n src, cI K a2 n prt, cZ K a3 n use] sz (zQv D K M [cO a0 6 [.ref a1, .ref a2, .ref a3, .int (f_rn use cnt j)], cI K a1 n src, cI K a2 n prt, cZ K a3 n (f_ru use j)]) := by
  refine zx_head (by decide) (Nat.le_of_ble_eq_true rfl) ?_
  intro _ _ _ _ _ _ _ _ _ hF hr hlk hnm
  refine zx_aload_n (pc := 0) hF d_Slo_release_0 rfl 0 rfl ?_
  refine zg_Slo_18 (pc := 1) hF 0 rfl rfl d_Slo_release_1 ?_
  refine zx_iload_n (pc := 4) hF d_Slo_release_4 rfl 1 rfl ?_
  refine zx_zaldn (pc := 5) hF (i := j) 3 rfl (by omega) (by omega) d_Slo_release_5 ?_
  refine zx_if_eq (pc := 6) hF d_Slo_release_6 (tgt := 26) rfl (fun h6 => ?_) (fun h6 => ?_)
  · exact zx_vret (pc := 26) hF hr hlk (by first | with_reducible rfl | (simp only [f_ru, f_rn, if_pos h6]; done) | (simp only [f_ru, f_rn, h6, ↓reduceIte]; done) | simp [f_ru, f_rn, h6]) d_Slo_release_26
  · refine zx_aload_n (pc := 9) hF d_Slo_release_9 rfl 0 rfl ?_
    refine zg_Slo_18 (pc := 10) hF 0 rfl rfl d_Slo_release_10 ?_
    refine zx_iload_n (pc := 13) hF d_Slo_release_13 rfl 1 rfl ?_
    refine zx_iconst (pc := 14) hF d_Slo_release_14 k_i0 ?_
    refine zx_zastn (pc := 15) hF (i := j) 3 rfl (by omega) (by omega) rfl d_Slo_release_15 (ws' := [cO a0 6 [.ref a1, .ref a2, .ref a3, .int cnt], cI K a1 n src, cI K a2 n prt, cZ K a3 n (upd use j 0)]) rfl ?_
    refine zx_aload_n (pc := 16) hF d_Slo_release_16 rfl 0 rfl ?_
    refine zx_dup (pc := 17) hF d_Slo_release_17 rfl ?_
    refine zg_Slo_22 (pc := 18) hF 0 rfl rfl d_Slo_release_18 ?_
    refine zx_iconst (pc := 21) hF d_Slo_release_21 k_i1 ?_
    refine zx_isub (pc := 22) hF d_Slo_release_22 ?_
    refine zp_Slo_22 (pc := 23) hF 0 rfl (Nat.le_of_ble_eq_true rfl) d_Slo_release_23 (ws' := [cO a0 6 [.ref a1, .ref a2, .ref a3, .int (cnt - 1)], cI K a1 n src, cI K a2 n prt, cZ K a3 n (upd use j 0)]) rfl ?_
    exact zx_vret (pc := 26) hF hr hlk (by first | with_reducible rfl | (simp only [f_ru, f_rn, if_neg h6]; done) | (simp only [f_ru, f_rn, h6, ↓reduceIte]; done) | simp [f_ru, f_rn, h6]) d_Slo_release_26
