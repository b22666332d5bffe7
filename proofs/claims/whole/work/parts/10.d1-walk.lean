set_option maxRecDepth 20000 in
theorem M_Stp_next (l : Launch) (D : va_G) (K : Nat → ClassId) (M : List (ClassId × FieldType)) (a0 : Nat) (x : Int32) (sz : Nat) : zM l y_Stp_next (zT y_Stp_next b_Stp_next 2 (some .int)) (zR 0 0) 0 0 D K M [.ref a0] [cO a0 7 [.int x]] sz (zQi D K M x [cO a0 7 [.int (f_next x)]]) := by
  refine zx_head (by decide) (Nat.le_of_ble_eq_true rfl) ?_
  intro _ _ _ _ _ _ _ _ _ hF hr hlk hnm
  refine zx_aload_n (pc := 0) hF d_Stp_next_0 rfl 0 rfl ?_
  refine zg_Stp_9 (pc := 1) hF 0 rfl rfl d_Stp_next_1 ?_
  refine zx_istore_n (pc := 4) hF (lv' := [(1, .int x), (0, .ref a0)]) d_Stp_next_4 rfl (by decide) rfl ?_
  refine zx_aload_n (pc := 5) hF d_Stp_next_5 rfl 1 rfl ?_
  refine zx_iload_n (pc := 6) hF d_Stp_next_6 rfl 0 rfl ?_
  refine zx_iconst (pc := 7) hF d_Stp_next_7 k_i1 ?_
  refine zx_iadd (pc := 8) hF d_Stp_next_8 ?_
  refine zx_ldc (pc := 9) hF wk_Stp_15 d_Stp_next_9 ?_
  refine zx_iand (pc := 11) hF d_Stp_next_11 ?_
  refine zp_Stp_9 (pc := 12) hF 0 rfl (Nat.le_of_ble_eq_true rfl) d_Stp_next_12 (ws' := [cO a0 7 [.int ((x + 1) &&& 65535)]]) rfl ?_
  refine zx_iload_n (pc := 15) hF d_Stp_next_15 rfl 0 rfl ?_
  exact zx_iret (pc := 16) hF hr hlk (by first | rfl | (simp only []; done) | (simp only [↓reduceIte]; done) | simp []) (by first | rfl | (simp only []; done) | (simp only [↓reduceIte]; done) | simp []) d_Stp_next_16
set_option maxRecDepth 20000 in
theorem M_Sum_halves (l : Launch) (D : va_G) (K : Nat → ClassId) (M : List (ClassId × FieldType)) (w : Int32) (sz : Nat) : zM l y_Sum_halves (zT y_Sum_halves b_Sum_halves 1 (some .int)) (zR 0 0) 0 0 D K M [.int w] [] sz (zQi D K M (f_halves w) []) := by
  refine zx_head (by decide) (Nat.le_of_ble_eq_true rfl) ?_
  intro _ _ _ _ _ _ _ _ _ hF hr hlk hnm
  refine zx_iload_n (pc := 0) hF d_Sum_halves_0 rfl 0 rfl ?_
  refine zx_bipush (pc := 1) hF d_Sum_halves_1 k_b16 ?_
  refine zx_iushr (pc := 3) hF (v := (ziushr w 16)) d_Sum_halves_3 rfl ?_
  refine zx_iload_n (pc := 4) hF d_Sum_halves_4 rfl 0 rfl ?_
  refine zx_ldc (pc := 5) hF wk_Sum_11 d_Sum_halves_5 ?_
  refine zx_iand (pc := 7) hF d_Sum_halves_7 ?_
  refine zx_iadd (pc := 8) hF d_Sum_halves_8 ?_
  exact zx_iret (pc := 9) hF hr hlk (by first | rfl | (simp only []; done) | (simp only [↓reduceIte]; done) | simp []) (by first | rfl | (simp only []; done) | (simp only [↓reduceIte]; done) | simp []) d_Sum_halves_9
set_option maxRecDepth 20000 in
theorem M_Sum_fold (l : Launch) (D : va_G) (K : Nat → ClassId) (M : List (ClassId × FieldType)) (t : Int32) (sz : Nat) : zM l y_Sum_fold (zT y_Sum_fold b_Sum_fold 1 (some .int)) (zR 0 0) 0 0 D K M [.int t] [] sz (zQi D K M (f_fold t) []) := by
  refine zx_head (by decide) (Nat.le_of_ble_eq_true rfl) ?_
  intro _ _ _ _ _ _ _ _ _ hF hr hlk hnm
  refine zx_iload_n (pc := 0) hF d_Sum_fold_0 rfl 0 rfl ?_
  refine zx_ldc (pc := 1) hF wk_Sum_11 d_Sum_fold_1 ?_
  refine zx_iand (pc := 3) hF d_Sum_fold_3 ?_
  refine zx_iload_n (pc := 4) hF d_Sum_fold_4 rfl 0 rfl ?_
  refine zx_bipush (pc := 5) hF d_Sum_fold_5 k_b16 ?_
  refine zx_iushr (pc := 7) hF (v := (ziushr t 16)) d_Sum_fold_7 rfl ?_
  refine zx_iadd (pc := 8) hF d_Sum_fold_8 ?_
  exact zx_iret (pc := 9) hF hr hlk (by first | rfl | (simp only []; done) | (simp only [↓reduceIte]; done) | simp []) (by first | rfl | (simp only []; done) | (simp only [↓reduceIte]; done) | simp []) d_Sum_fold_9
set_option maxRecDepth 20000 in
theorem M_Sum_sumOf (l : Launch) (D : va_G) (K : Nat → ClassId) (M : List (ClassId × FieldType)) (w0 : Int32) (w1 : Int32) (w2 : Int32) (w3 : Int32) (w4 : Int32) (sz : Nat) : zM l y_Sum_sumOf (zT y_Sum_sumOf b_Sum_sumOf 6 (some .int)) (zR 1 20) 0 0 D K M [.int w0, .int w1, .int w2, .int w3, .int w4] [] sz (zQi D K M (f_sum w0 w1 w2 w3 w4) []) := by
  refine zx_head (by decide) (Nat.le_of_ble_eq_true rfl) ?_
  intro _ _ _ _ _ _ _ _ _ hF hr hlk hnm
  refine zx_iload_n (pc := 0) hF d_Sum_sumOf_0 rfl 0 rfl ?_
  refine zx_Si (pc := 1) hF (As := [.int w0]) (rest := []) (fun sz => M_Sum_halves l D K M w0  sz) [] rfl List.nodup_nil (as := []) rfl rfl (ws' := []) rfl (cw_Sum_17 hF.2.2.2.2.1 rfl rfl ⟨by decide, by decide⟩) rfl rfl (Nat.le_of_ble_eq_true rfl) d_Sum_sumOf_1 ⟨Nat.zero_le _, Nat.zero_le _⟩ ?_
  refine zx_iload_n (pc := 4) hF d_Sum_sumOf_4 rfl 1 rfl ?_
  refine zx_Si (pc := 5) hF (As := [.int w1]) (rest := [.int (f_halves w0)]) (fun sz => M_Sum_halves l D K M w1  sz) [] rfl List.nodup_nil (as := []) rfl rfl (ws' := []) rfl (cw_Sum_17 hF.2.2.2.2.1 rfl rfl ⟨by decide, by decide⟩) rfl rfl (Nat.le_of_ble_eq_true rfl) d_Sum_sumOf_5 ⟨Nat.zero_le _, Nat.zero_le _⟩ ?_
  refine zx_iadd (pc := 8) hF d_Sum_sumOf_8 ?_
  refine zx_iload_n (pc := 9) hF d_Sum_sumOf_9 rfl 2 rfl ?_
  refine zx_Si (pc := 10) hF (As := [.int w2]) (rest := [.int ((f_halves w0) + (f_halves w1))]) (fun sz => M_Sum_halves l D K M w2  sz) [] rfl List.nodup_nil (as := []) rfl rfl (ws' := []) rfl (cw_Sum_17 hF.2.2.2.2.1 rfl rfl ⟨by decide, by decide⟩) rfl rfl (Nat.le_of_ble_eq_true rfl) d_Sum_sumOf_10 ⟨Nat.zero_le _, Nat.zero_le _⟩ ?_
  refine zx_iadd (pc := 13) hF d_Sum_sumOf_13 ?_
  refine zx_iload_n (pc := 14) hF d_Sum_sumOf_14 rfl 3 rfl ?_
  refine zx_Si (pc := 15) hF (As := [.int w3]) (rest := [.int (((f_halves w0) + (f_halves w1)) + (f_halves w2))]) (fun sz => M_Sum_halves l D K M w3  sz) [] rfl List.nodup_nil (as := []) rfl rfl (ws' := []) rfl (cw_Sum_17 hF.2.2.2.2.1 rfl rfl ⟨by decide, by decide⟩) rfl rfl (Nat.le_of_ble_eq_true rfl) d_Sum_sumOf_15 ⟨Nat.zero_le _, Nat.zero_le _⟩ ?_
  refine zx_iadd (pc := 18) hF d_Sum_sumOf_18 ?_
  refine zx_iload (pc := 19) hF d_Sum_sumOf_19 4 rfl ?_
  refine zx_Si (pc := 21) hF (As := [.int w4]) (rest := [.int ((((f_halves w0) + (f_halves w1)) + (f_halves w2)) + (f_halves w3))]) (fun sz => M_Sum_halves l D K M w4  sz) [] rfl List.nodup_nil (as := []) rfl rfl (ws' := []) rfl (cw_Sum_17 hF.2.2.2.2.1 rfl rfl ⟨by decide, by decide⟩) rfl rfl (Nat.le_of_ble_eq_true rfl) d_Sum_sumOf_21 ⟨Nat.zero_le _, Nat.zero_le _⟩ ?_
  refine zx_iadd (pc := 24) hF d_Sum_sumOf_24 ?_
  refine zx_istore (pc := 25) hF (lv' := [(5, .int (((((f_halves w0) + (f_halves w1)) + (f_halves w2)) + (f_halves w3)) + (f_halves w4))), (0, .int w0), (1, .int w1), (2, .int w2), (3, .int w3), (4, .int w4)]) d_Sum_sumOf_25 (by decide) rfl ?_
  refine zx_iload (pc := 27) hF d_Sum_sumOf_27 0 rfl ?_
  refine zx_Si (pc := 29) hF (As := [.int (((((f_halves w0) + (f_halves w1)) + (f_halves w2)) + (f_halves w3)) + (f_halves w4))]) (rest := []) (fun sz => M_Sum_fold l D K M (((((f_halves w0) + (f_halves w1)) + (f_halves w2)) + (f_halves w3)) + (f_halves w4))  sz) [] rfl List.nodup_nil (as := []) rfl rfl (ws' := []) rfl (cw_Sum_21 hF.2.2.2.2.1 rfl rfl ⟨by decide, by decide⟩) rfl rfl (Nat.le_of_ble_eq_true rfl) d_Sum_sumOf_29 ⟨Nat.zero_le _, Nat.zero_le _⟩ ?_
  refine zx_Si (pc := 32) hF (As := [.int (f_fold (((((f_halves w0) + (f_halves w1)) + (f_halves w2)) + (f_halves w3)) + (f_halves w4)))]) (rest := []) (fun sz => M_Sum_fold l D K M (f_fold (((((f_halves w0) + (f_halves w1)) + (f_halves w2)) + (f_halves w3)) + (f_halves w4)))  sz) [] rfl List.nodup_nil (as := []) rfl rfl (ws' := []) rfl (cw_Sum_21 hF.2.2.2.2.1 rfl rfl ⟨by decide, by decide⟩) rfl rfl (Nat.le_of_ble_eq_true rfl) d_Sum_sumOf_32 ⟨Nat.zero_le _, Nat.zero_le _⟩ ?_
  exact zx_iret (pc := 35) hF hr hlk (by first | rfl | (simp only []; done) | (simp only [↓reduceIte]; done) | simp []) (by first | rfl | (simp only []; done) | (simp only [↓reduceIte]; done) | simp []) d_Sum_sumOf_35
set_option maxRecDepth 20000 in
theorem M_Sum_rightChecksum (l : Launch) (D : va_G) (K : Nat → ClassId) (M : List (ClassId × FieldType)) (w0 : Int32) (w1 : Int32) (w2 : Int32) (w3 : Int32) (w4 : Int32) (sz : Nat) : zM l y_Sum_rightChecksum (zT y_Sum_rightChecksum b_Sum_rightChecksum 5 (some .int)) (zR 2 45) 0 0 D K M [.int w0, .int w1, .int w2, .int w3, .int w4] [] sz (zQi D K M (f_cks w0 w1 w2 w3 w4) []) := by
  refine zx_head (by decide) (Nat.le_of_ble_eq_true rfl) ?_
  intro _ _ _ _ _ _ _ _ _ hF hr hlk hnm
  refine zx_ldc (pc := 0) hF wk_Sum_11 d_Sum_rightChecksum_0 ?_
  refine zx_iload_n (pc := 2) hF d_Sum_rightChecksum_2 rfl 0 rfl ?_
  refine zx_iload_n (pc := 3) hF d_Sum_rightChecksum_3 rfl 1 rfl ?_
  refine zx_iload_n (pc := 4) hF d_Sum_rightChecksum_4 rfl 2 rfl ?_
  refine zx_ldc (pc := 5) hF wk_Sum_12 d_Sum_rightChecksum_5 ?_
  refine zx_iand (pc := 7) hF d_Sum_rightChecksum_7 ?_
  refine zx_iload_n (pc := 8) hF d_Sum_rightChecksum_8 rfl 3 rfl ?_
  refine zx_iload (pc := 9) hF d_Sum_rightChecksum_9 4 rfl ?_
  refine zx_Si (pc := 11) hF (As := [.int w0, .int w1, .int (w2 &&& (-65536)), .int w3, .int w4]) (rest := [.int 65535]) (fun sz => M_Sum_sumOf l D K M w0 w1 (w2 &&& (-65536)) w3 w4  sz) [] rfl List.nodup_nil (as := []) rfl rfl (ws' := []) rfl (cw_Sum_13 hF.2.2.2.2.1 rfl rfl ⟨by decide, by decide⟩) rfl rfl (Nat.le_of_ble_eq_true rfl) d_Sum_rightChecksum_11 ⟨Nat.zero_le _, Nat.zero_le _⟩ ?_
  refine zx_isub (pc := 14) hF d_Sum_rightChecksum_14 ?_
  exact zx_iret (pc := 15) hF hr hlk (by first | rfl | (simp only []; done) | (simp only [↓reduceIte]; done) | simp []) (by first | rfl | (simp only []; done) | (simp only [↓reduceIte]; done) | simp []) d_Sum_rightChecksum_15
set_option maxRecDepth 20000 in
theorem M_Dig_turnedLeft (l : Launch) (D : va_G) (K : Nat → ClassId) (M : List (ClassId × FieldType)) (x : Int64) (n : Int32) (sz : Nat) : zM l y_Dig_turnedLeft (zT y_Dig_turnedLeft b_Dig_turnedLeft 3 (some .long)) (zR 0 0) 0 0 D K M [.long x, .int n] [] sz (zQl D K M (f_rot x n) []) := by
  refine zx_head (by decide) (Nat.le_of_ble_eq_true rfl) ?_
  intro _ _ _ _ _ _ _ _ _ hF hr hlk hnm
  refine zx_lload_n (pc := 0) hF d_Dig_turnedLeft_0 rfl 0 rfl ?_
  refine zx_iload_n (pc := 1) hF d_Dig_turnedLeft_1 rfl 1 rfl ?_
  refine zx_lshl (pc := 2) hF (v := (zlshl x n)) d_Dig_turnedLeft_2 rfl ?_
  refine zx_lload_n (pc := 3) hF d_Dig_turnedLeft_3 rfl 0 rfl ?_
  refine zx_bipush (pc := 4) hF d_Dig_turnedLeft_4 k_b64 ?_
  refine zx_iload_n (pc := 6) hF d_Dig_turnedLeft_6 rfl 1 rfl ?_
  refine zx_isub (pc := 7) hF d_Dig_turnedLeft_7 ?_
  refine zx_lushr (pc := 8) hF (v := (zlushr x (64 - n))) d_Dig_turnedLeft_8 rfl ?_
  refine zx_lor (pc := 9) hF d_Dig_turnedLeft_9 ?_
  exact zx_lret (pc := 10) hF hr hlk (by first | rfl | (simp only []; done) | (simp only [↓reduceIte]; done) | simp []) (by first | rfl | (simp only []; done) | (simp only [↓reduceIte]; done) | simp []) d_Dig_turnedLeft_10
set_option maxRecDepth 20000 in
theorem M_Dig_round (l : Launch) (D : va_G) (K : Nat → ClassId) (M : List (ClassId × FieldType)) (a0 : Nat) (k0 : Int64) (k1 : Int64) (a : Int64) (b : Int64) (c : Int64) (d : Int64) (sz : Nat) : zM l y_Dig_round (zT y_Dig_round b_Dig_round 1 none) (zR 1 22) 0 0 D K M [.ref a0] [cO a0 2 [.long k0, .long k1, .long a, .long b, .long c, .long d]] sz (zQv D K M [cO a0 2 [.long k0, .long k1, .long (f_ra a b c d), .long (f_rb a b c d), .long (f_rc a b c d), .long (f_rd a b c d)]]) := by
  refine zx_head (by decide) (Nat.le_of_ble_eq_true rfl) ?_
  intro _ _ _ _ _ _ _ _ _ hF hr hlk hnm
  refine zx_aload_n (pc := 0) hF d_Dig_round_0 rfl 0 rfl ?_
  refine zx_dup (pc := 1) hF d_Dig_round_1 rfl ?_
  refine zg_Dig_18 (pc := 2) hF 0 rfl rfl d_Dig_round_2 ?_
  refine zx_aload_n (pc := 5) hF d_Dig_round_5 rfl 0 rfl ?_
  refine zg_Dig_23 (pc := 6) hF 0 rfl rfl d_Dig_round_6 ?_
  refine zx_ladd (pc := 9) hF d_Dig_round_9 ?_
  refine zp_Dig_18 (pc := 10) hF 0 rfl (Nat.le_of_ble_eq_true rfl) d_Dig_round_10 (ws' := [cO a0 2 [.long k0, .long k1, .long (a + b), .long b, .long c, .long d]]) rfl ?_
  refine zx_aload_n (pc := 13) hF d_Dig_round_13 rfl 0 rfl ?_
  refine zx_aload_n (pc := 14) hF d_Dig_round_14 rfl 0 rfl ?_
  refine zg_Dig_23 (pc := 15) hF 0 rfl rfl d_Dig_round_15 ?_
  refine zx_bipush (pc := 18) hF d_Dig_round_18 k_b13 ?_
  refine zx_Sl (pc := 20) hF (As := [.long b, .int 13]) (rest := [.ref a0]) (fun sz => M_Dig_turnedLeft l D K M b 13  sz) [] rfl List.nodup_nil (as := []) rfl rfl (ws' := [cO a0 2 [.long k0, .long k1, .long (a + b), .long b, .long c, .long d]]) rfl (cw_Dig_47 hF.2.2.2.2.1 rfl rfl ⟨by decide, by decide⟩) rfl rfl (Nat.le_of_ble_eq_true rfl) d_Dig_round_20 ⟨Nat.zero_le _, Nat.zero_le _⟩ ?_
  refine zx_aload_n (pc := 23) hF d_Dig_round_23 rfl 0 rfl ?_
  refine zg_Dig_18 (pc := 24) hF 0 rfl rfl d_Dig_round_24 ?_
  refine zx_lxor (pc := 27) hF d_Dig_round_27 ?_
  refine zp_Dig_23 (pc := 28) hF 0 rfl (Nat.le_of_ble_eq_true rfl) d_Dig_round_28 (ws' := [cO a0 2 [.long k0, .long k1, .long (a + b), .long ((f_rot b 13) ^^^ (a + b)), .long c, .long d]]) rfl ?_
  refine zx_aload_n (pc := 31) hF d_Dig_round_31 rfl 0 rfl ?_
  refine zx_aload_n (pc := 32) hF d_Dig_round_32 rfl 0 rfl ?_
  refine zg_Dig_18 (pc := 33) hF 0 rfl rfl d_Dig_round_33 ?_
  refine zx_bipush (pc := 36) hF d_Dig_round_36 k_b32 ?_
  refine zx_Sl (pc := 38) hF (As := [.long (a + b), .int 32]) (rest := [.ref a0]) (fun sz => M_Dig_turnedLeft l D K M (a + b) 32  sz) [] rfl List.nodup_nil (as := []) rfl rfl (ws' := [cO a0 2 [.long k0, .long k1, .long (a + b), .long ((f_rot b 13) ^^^ (a + b)), .long c, .long d]]) rfl (cw_Dig_47 hF.2.2.2.2.1 rfl rfl ⟨by decide, by decide⟩) rfl rfl (Nat.le_of_ble_eq_true rfl) d_Dig_round_38 ⟨Nat.zero_le _, Nat.zero_le _⟩ ?_
  refine zp_Dig_18 (pc := 41) hF 0 rfl (Nat.le_of_ble_eq_true rfl) d_Dig_round_41 (ws' := [cO a0 2 [.long k0, .long k1, .long (f_rot (a + b) 32), .long ((f_rot b 13) ^^^ (a + b)), .long c, .long d]]) rfl ?_
  refine zx_aload_n (pc := 44) hF d_Dig_round_44 rfl 0 rfl ?_
  refine zx_dup (pc := 45) hF d_Dig_round_45 rfl ?_
  refine zg_Dig_28 (pc := 46) hF 0 rfl rfl d_Dig_round_46 ?_
  refine zx_aload_n (pc := 49) hF d_Dig_round_49 rfl 0 rfl ?_
  refine zg_Dig_33 (pc := 50) hF 0 rfl rfl d_Dig_round_50 ?_
  refine zx_ladd (pc := 53) hF d_Dig_round_53 ?_
  refine zp_Dig_28 (pc := 54) hF 0 rfl (Nat.le_of_ble_eq_true rfl) d_Dig_round_54 (ws' := [cO a0 2 [.long k0, .long k1, .long (f_rot (a + b) 32), .long ((f_rot b 13) ^^^ (a + b)), .long (c + d), .long d]]) rfl ?_
  refine zx_aload_n (pc := 57) hF d_Dig_round_57 rfl 0 rfl ?_
  refine zx_aload_n (pc := 58) hF d_Dig_round_58 rfl 0 rfl ?_
  refine zg_Dig_33 (pc := 59) hF 0 rfl rfl d_Dig_round_59 ?_
  refine zx_bipush (pc := 62) hF d_Dig_round_62 k_b16 ?_
  refine zx_Sl (pc := 64) hF (As := [.long d, .int 16]) (rest := [.ref a0]) (fun sz => M_Dig_turnedLeft l D K M d 16  sz) [] rfl List.nodup_nil (as := []) rfl rfl (ws' := [cO a0 2 [.long k0, .long k1, .long (f_rot (a + b) 32), .long ((f_rot b 13) ^^^ (a + b)), .long (c + d), .long d]]) rfl (cw_Dig_47 hF.2.2.2.2.1 rfl rfl ⟨by decide, by decide⟩) rfl rfl (Nat.le_of_ble_eq_true rfl) d_Dig_round_64 ⟨Nat.zero_le _, Nat.zero_le _⟩ ?_
  refine zx_aload_n (pc := 67) hF d_Dig_round_67 rfl 0 rfl ?_
  refine zg_Dig_28 (pc := 68) hF 0 rfl rfl d_Dig_round_68 ?_
  refine zx_lxor (pc := 71) hF d_Dig_round_71 ?_
  refine zp_Dig_33 (pc := 72) hF 0 rfl (Nat.le_of_ble_eq_true rfl) d_Dig_round_72 (ws' := [cO a0 2 [.long k0, .long k1, .long (f_rot (a + b) 32), .long ((f_rot b 13) ^^^ (a + b)), .long (c + d), .long ((f_rot d 16) ^^^ (c + d))]]) rfl ?_
  refine zx_aload_n (pc := 75) hF d_Dig_round_75 rfl 0 rfl ?_
  refine zx_dup (pc := 76) hF d_Dig_round_76 rfl ?_
  refine zg_Dig_18 (pc := 77) hF 0 rfl rfl d_Dig_round_77 ?_
  refine zx_aload_n (pc := 80) hF d_Dig_round_80 rfl 0 rfl ?_
  refine zg_Dig_33 (pc := 81) hF 0 rfl rfl d_Dig_round_81 ?_
  refine zx_ladd (pc := 84) hF d_Dig_round_84 ?_
  refine zp_Dig_18 (pc := 85) hF 0 rfl (Nat.le_of_ble_eq_true rfl) d_Dig_round_85 (ws' := [cO a0 2 [.long k0, .long k1, .long ((f_rot (a + b) 32) + ((f_rot d 16) ^^^ (c + d))), .long ((f_rot b 13) ^^^ (a + b)), .long (c + d), .long ((f_rot d 16) ^^^ (c + d))]]) rfl ?_
  refine zx_aload_n (pc := 88) hF d_Dig_round_88 rfl 0 rfl ?_
  refine zx_aload_n (pc := 89) hF d_Dig_round_89 rfl 0 rfl ?_
  refine zg_Dig_33 (pc := 90) hF 0 rfl rfl d_Dig_round_90 ?_
  refine zx_bipush (pc := 93) hF d_Dig_round_93 k_b21 ?_
  refine zx_Sl (pc := 95) hF (As := [.long ((f_rot d 16) ^^^ (c + d)), .int 21]) (rest := [.ref a0]) (fun sz => M_Dig_turnedLeft l D K M ((f_rot d 16) ^^^ (c + d)) 21  sz) [] rfl List.nodup_nil (as := []) rfl rfl (ws' := [cO a0 2 [.long k0, .long k1, .long ((f_rot (a + b) 32) + ((f_rot d 16) ^^^ (c + d))), .long ((f_rot b 13) ^^^ (a + b)), .long (c + d), .long ((f_rot d 16) ^^^ (c + d))]]) rfl (cw_Dig_47 hF.2.2.2.2.1 rfl rfl ⟨by decide, by decide⟩) rfl rfl (Nat.le_of_ble_eq_true rfl) d_Dig_round_95 ⟨Nat.zero_le _, Nat.zero_le _⟩ ?_
  refine zx_aload_n (pc := 98) hF d_Dig_round_98 rfl 0 rfl ?_
  refine zg_Dig_18 (pc := 99) hF 0 rfl rfl d_Dig_round_99 ?_
  refine zx_lxor (pc := 102) hF d_Dig_round_102 ?_
  refine zp_Dig_33 (pc := 103) hF 0 rfl (Nat.le_of_ble_eq_true rfl) d_Dig_round_103 (ws' := [cO a0 2 [.long k0, .long k1, .long ((f_rot (a + b) 32) + ((f_rot d 16) ^^^ (c + d))), .long ((f_rot b 13) ^^^ (a + b)), .long (c + d), .long ((f_rot ((f_rot d 16) ^^^ (c + d)) 21) ^^^ ((f_rot (a + b) 32) + ((f_rot d 16) ^^^ (c + d))))]]) rfl ?_
  refine zx_aload_n (pc := 106) hF d_Dig_round_106 rfl 0 rfl ?_
  refine zx_dup (pc := 107) hF d_Dig_round_107 rfl ?_
  refine zg_Dig_28 (pc := 108) hF 0 rfl rfl d_Dig_round_108 ?_
  refine zx_aload_n (pc := 111) hF d_Dig_round_111 rfl 0 rfl ?_
  refine zg_Dig_23 (pc := 112) hF 0 rfl rfl d_Dig_round_112 ?_
  refine zx_ladd (pc := 115) hF d_Dig_round_115 ?_
  refine zp_Dig_28 (pc := 116) hF 0 rfl (Nat.le_of_ble_eq_true rfl) d_Dig_round_116 (ws' := [cO a0 2 [.long k0, .long k1, .long ((f_rot (a + b) 32) + ((f_rot d 16) ^^^ (c + d))), .long ((f_rot b 13) ^^^ (a + b)), .long ((c + d) + ((f_rot b 13) ^^^ (a + b))), .long ((f_rot ((f_rot d 16) ^^^ (c + d)) 21) ^^^ ((f_rot (a + b) 32) + ((f_rot d 16) ^^^ (c + d))))]]) rfl ?_
  refine zx_aload_n (pc := 119) hF d_Dig_round_119 rfl 0 rfl ?_
  refine zx_aload_n (pc := 120) hF d_Dig_round_120 rfl 0 rfl ?_
  refine zg_Dig_23 (pc := 121) hF 0 rfl rfl d_Dig_round_121 ?_
  refine zx_bipush (pc := 124) hF d_Dig_round_124 k_b17 ?_
  refine zx_Sl (pc := 126) hF (As := [.long ((f_rot b 13) ^^^ (a + b)), .int 17]) (rest := [.ref a0]) (fun sz => M_Dig_turnedLeft l D K M ((f_rot b 13) ^^^ (a + b)) 17  sz) [] rfl List.nodup_nil (as := []) rfl rfl (ws' := [cO a0 2 [.long k0, .long k1, .long ((f_rot (a + b) 32) + ((f_rot d 16) ^^^ (c + d))), .long ((f_rot b 13) ^^^ (a + b)), .long ((c + d) + ((f_rot b 13) ^^^ (a + b))), .long ((f_rot ((f_rot d 16) ^^^ (c + d)) 21) ^^^ ((f_rot (a + b) 32) + ((f_rot d 16) ^^^ (c + d))))]]) rfl (cw_Dig_47 hF.2.2.2.2.1 rfl rfl ⟨by decide, by decide⟩) rfl rfl (Nat.le_of_ble_eq_true rfl) d_Dig_round_126 ⟨Nat.zero_le _, Nat.zero_le _⟩ ?_
  refine zx_aload_n (pc := 129) hF d_Dig_round_129 rfl 0 rfl ?_
  refine zg_Dig_28 (pc := 130) hF 0 rfl rfl d_Dig_round_130 ?_
  refine zx_lxor (pc := 133) hF d_Dig_round_133 ?_
  refine zp_Dig_23 (pc := 134) hF 0 rfl (Nat.le_of_ble_eq_true rfl) d_Dig_round_134 (ws' := [cO a0 2 [.long k0, .long k1, .long ((f_rot (a + b) 32) + ((f_rot d 16) ^^^ (c + d))), .long ((f_rot ((f_rot b 13) ^^^ (a + b)) 17) ^^^ ((c + d) + ((f_rot b 13) ^^^ (a + b)))), .long ((c + d) + ((f_rot b 13) ^^^ (a + b))), .long ((f_rot ((f_rot d 16) ^^^ (c + d)) 21) ^^^ ((f_rot (a + b) 32) + ((f_rot d 16) ^^^ (c + d))))]]) rfl ?_
  refine zx_aload_n (pc := 137) hF d_Dig_round_137 rfl 0 rfl ?_
  refine zx_aload_n (pc := 138) hF d_Dig_round_138 rfl 0 rfl ?_
  refine zg_Dig_28 (pc := 139) hF 0 rfl rfl d_Dig_round_139 ?_
  refine zx_bipush (pc := 142) hF d_Dig_round_142 k_b32 ?_
  refine zx_Sl (pc := 144) hF (As := [.long ((c + d) + ((f_rot b 13) ^^^ (a + b))), .int 32]) (rest := [.ref a0]) (fun sz => M_Dig_turnedLeft l D K M ((c + d) + ((f_rot b 13) ^^^ (a + b))) 32  sz) [] rfl List.nodup_nil (as := []) rfl rfl (ws' := [cO a0 2 [.long k0, .long k1, .long ((f_rot (a + b) 32) + ((f_rot d 16) ^^^ (c + d))), .long ((f_rot ((f_rot b 13) ^^^ (a + b)) 17) ^^^ ((c + d) + ((f_rot b 13) ^^^ (a + b)))), .long ((c + d) + ((f_rot b 13) ^^^ (a + b))), .long ((f_rot ((f_rot d 16) ^^^ (c + d)) 21) ^^^ ((f_rot (a + b) 32) + ((f_rot d 16) ^^^ (c + d))))]]) rfl (cw_Dig_47 hF.2.2.2.2.1 rfl rfl ⟨by decide, by decide⟩) rfl rfl (Nat.le_of_ble_eq_true rfl) d_Dig_round_144 ⟨Nat.zero_le _, Nat.zero_le _⟩ ?_
  refine zp_Dig_28 (pc := 147) hF 0 rfl (Nat.le_of_ble_eq_true rfl) d_Dig_round_147 (ws' := [cO a0 2 [.long k0, .long k1, .long ((f_rot (a + b) 32) + ((f_rot d 16) ^^^ (c + d))), .long ((f_rot ((f_rot b 13) ^^^ (a + b)) 17) ^^^ ((c + d) + ((f_rot b 13) ^^^ (a + b)))), .long (f_rot ((c + d) + ((f_rot b 13) ^^^ (a + b))) 32), .long ((f_rot ((f_rot d 16) ^^^ (c + d)) 21) ^^^ ((f_rot (a + b) 32) + ((f_rot d 16) ^^^ (c + d))))]]) rfl ?_
  exact zx_vret (pc := 150) hF hr hlk (by first | rfl | (simp only []; done) | (simp only [↓reduceIte]; done) | simp []) d_Dig_round_150
set_option maxRecDepth 20000 in
theorem M_Dig_takeIn (l : Launch) (D : va_G) (K : Nat → ClassId) (M : List (ClassId × FieldType)) (a0 : Nat) (k0 : Int64) (k1 : Int64) (v : f_4) (y : Int64) (sz : Nat) : zM l y_Dig_takeIn (zT y_Dig_takeIn b_Dig_takeIn 3 none) (zR 2 42) 0 0 D K M [.ref a0, .long y] [cO a0 2 [.long k0, .long k1, .long v.1, .long v.2.1, .long v.2.2.1, .long v.2.2.2]] sz (zQv D K M [cO a0 2 [.long k0, .long k1, .long (f_in y v).1, .long (f_in y v).2.1, .long (f_in y v).2.2.1, .long (f_in y v).2.2.2]]) := by
  refine zx_head (by decide) (Nat.le_of_ble_eq_true rfl) ?_
  intro _ _ _ _ _ _ _ _ _ hF hr hlk hnm
  refine zx_aload_n (pc := 0) hF d_Dig_takeIn_0 rfl 0 rfl ?_
  refine zx_dup (pc := 1) hF d_Dig_takeIn_1 rfl ?_
  refine zg_Dig_33 (pc := 2) hF 0 rfl rfl d_Dig_takeIn_2 ?_
  refine zx_lload_n (pc := 5) hF d_Dig_takeIn_5 rfl 1 rfl ?_
  refine zx_lxor (pc := 6) hF d_Dig_takeIn_6 ?_
  refine zp_Dig_33 (pc := 7) hF 0 rfl (Nat.le_of_ble_eq_true rfl) d_Dig_takeIn_7 (ws' := [cO a0 2 [.long k0, .long k1, .long v.1, .long v.2.1, .long v.2.2.1, .long (v.2.2.2 ^^^ y)]]) rfl ?_
  refine zx_aload_n (pc := 10) hF d_Dig_takeIn_10 rfl 0 rfl ?_
  refine zx_Vv (pc := 11) hF (As := []) (rest := []) (fun sz => M_Dig_round l D K M a0 k0 k1 v.1 v.2.1 v.2.2.1 (v.2.2.2 ^^^ y)  sz) [0] rfl (by decide) (as := [a0]) rfl rfl (ws' := [cO a0 2 [.long k0, .long k1, .long (f_ra v.1 v.2.1 v.2.2.1 (v.2.2.2 ^^^ y)), .long (f_rb v.1 v.2.1 v.2.2.1 (v.2.2.2 ^^^ y)), .long (f_rc v.1 v.2.1 v.2.2.1 (v.2.2.2 ^^^ y)), .long (f_rd v.1 v.2.1 v.2.2.1 (v.2.2.2 ^^^ y))]]) rfl 0 2 rfl rfl rfl (cw_Dig_44 hF.2.2.2.2.1 rfl rfl ⟨by decide, by decide⟩) rfl rfl (Nat.le_of_ble_eq_true rfl) d_Dig_takeIn_11 ⟨Nat.zero_le _, Nat.zero_le _⟩ ?_
  refine zx_aload_n (pc := 14) hF d_Dig_takeIn_14 rfl 0 rfl ?_
  refine zx_Vv (pc := 15) hF (As := []) (rest := []) (fun sz => M_Dig_round l D K M a0 k0 k1 (f_ra v.1 v.2.1 v.2.2.1 (v.2.2.2 ^^^ y)) (f_rb v.1 v.2.1 v.2.2.1 (v.2.2.2 ^^^ y)) (f_rc v.1 v.2.1 v.2.2.1 (v.2.2.2 ^^^ y)) (f_rd v.1 v.2.1 v.2.2.1 (v.2.2.2 ^^^ y))  sz) [0] rfl (by decide) (as := [a0]) rfl rfl (ws' := [cO a0 2 [.long k0, .long k1, .long (f_ra (f_ra v.1 v.2.1 v.2.2.1 (v.2.2.2 ^^^ y)) (f_rb v.1 v.2.1 v.2.2.1 (v.2.2.2 ^^^ y)) (f_rc v.1 v.2.1 v.2.2.1 (v.2.2.2 ^^^ y)) (f_rd v.1 v.2.1 v.2.2.1 (v.2.2.2 ^^^ y))), .long (f_rb (f_ra v.1 v.2.1 v.2.2.1 (v.2.2.2 ^^^ y)) (f_rb v.1 v.2.1 v.2.2.1 (v.2.2.2 ^^^ y)) (f_rc v.1 v.2.1 v.2.2.1 (v.2.2.2 ^^^ y)) (f_rd v.1 v.2.1 v.2.2.1 (v.2.2.2 ^^^ y))), .long (f_rc (f_ra v.1 v.2.1 v.2.2.1 (v.2.2.2 ^^^ y)) (f_rb v.1 v.2.1 v.2.2.1 (v.2.2.2 ^^^ y)) (f_rc v.1 v.2.1 v.2.2.1 (v.2.2.2 ^^^ y)) (f_rd v.1 v.2.1 v.2.2.1 (v.2.2.2 ^^^ y))), .long (f_rd (f_ra v.1 v.2.1 v.2.2.1 (v.2.2.2 ^^^ y)) (f_rb v.1 v.2.1 v.2.2.1 (v.2.2.2 ^^^ y)) (f_rc v.1 v.2.1 v.2.2.1 (v.2.2.2 ^^^ y)) (f_rd v.1 v.2.1 v.2.2.1 (v.2.2.2 ^^^ y)))]]) rfl 0 2 rfl rfl rfl (cw_Dig_44 hF.2.2.2.2.1 rfl rfl ⟨by decide, by decide⟩) rfl rfl (Nat.le_of_ble_eq_true rfl) d_Dig_takeIn_15 ⟨Nat.zero_le _, Nat.zero_le _⟩ ?_
  refine zx_aload_n (pc := 18) hF d_Dig_takeIn_18 rfl 0 rfl ?_
  refine zx_dup (pc := 19) hF d_Dig_takeIn_19 rfl ?_
  refine zg_Dig_18 (pc := 20) hF 0 rfl rfl d_Dig_takeIn_20 ?_
  refine zx_lload_n (pc := 23) hF d_Dig_takeIn_23 rfl 1 rfl ?_
  refine zx_lxor (pc := 24) hF d_Dig_takeIn_24 ?_
  refine zp_Dig_18 (pc := 25) hF 0 rfl (Nat.le_of_ble_eq_true rfl) d_Dig_takeIn_25 (ws' := [cO a0 2 [.long k0, .long k1, .long ((f_ra (f_ra v.1 v.2.1 v.2.2.1 (v.2.2.2 ^^^ y)) (f_rb v.1 v.2.1 v.2.2.1 (v.2.2.2 ^^^ y)) (f_rc v.1 v.2.1 v.2.2.1 (v.2.2.2 ^^^ y)) (f_rd v.1 v.2.1 v.2.2.1 (v.2.2.2 ^^^ y))) ^^^ y), .long (f_rb (f_ra v.1 v.2.1 v.2.2.1 (v.2.2.2 ^^^ y)) (f_rb v.1 v.2.1 v.2.2.1 (v.2.2.2 ^^^ y)) (f_rc v.1 v.2.1 v.2.2.1 (v.2.2.2 ^^^ y)) (f_rd v.1 v.2.1 v.2.2.1 (v.2.2.2 ^^^ y))), .long (f_rc (f_ra v.1 v.2.1 v.2.2.1 (v.2.2.2 ^^^ y)) (f_rb v.1 v.2.1 v.2.2.1 (v.2.2.2 ^^^ y)) (f_rc v.1 v.2.1 v.2.2.1 (v.2.2.2 ^^^ y)) (f_rd v.1 v.2.1 v.2.2.1 (v.2.2.2 ^^^ y))), .long (f_rd (f_ra v.1 v.2.1 v.2.2.1 (v.2.2.2 ^^^ y)) (f_rb v.1 v.2.1 v.2.2.1 (v.2.2.2 ^^^ y)) (f_rc v.1 v.2.1 v.2.2.1 (v.2.2.2 ^^^ y)) (f_rd v.1 v.2.1 v.2.2.1 (v.2.2.2 ^^^ y)))]]) rfl ?_
  exact zx_vret (pc := 28) hF hr hlk (by simp only [f_in, f_iter, f_round]) d_Dig_takeIn_28
