set_option maxRecDepth 20000 in
theorem M_Wir_word (l : Launch) (D : va_G) (K : Nat → ClassId) (M : List (ClassId × FieldType)) (a0 : Nat) (a1 : Nat) (w : Nat → Int32) (t : Int32) (sz : Nat) : zM l y_Wir_word (zT y_Wir_word b_Wir_word 2 (some .int)) (zR 0 0) 0 0 D K M [.ref a0, .int t] [cO a0 10 [.ref a1], cI K a1 16 w] sz (zQi D K M (if t < 0 then 0 else if 16 ≤ t then 0 else w t.toNatClampNeg) [cO a0 10 [.ref a1], cI K a1 16 w]) := by
  refine zx_head (by decide) (Nat.le_of_ble_eq_true rfl) ?_
  intro _ _ _ _ _ _ _ _ _ hF hr hlk hnm
  refine zx_iload_n (pc := 0) hF d_Wir_word_0 rfl 1 rfl ?_
  refine zx_if_lt (pc := 1) hF d_Wir_word_1 (tgt := 19) rfl (fun h1 => ?_) (fun h1 => ?_)
  · refine zx_iconst (pc := 19) hF d_Wir_word_19 k_i0 ?_
    exact zx_iret (pc := 20) hF hr hlk (by first | rfl | (simp only [if_pos h1]; done) | (simp only [h1, ↓reduceIte]; done) | simp [h1]) (by first | rfl | (simp only [if_pos h1]; done) | (simp only [h1, ↓reduceIte]; done) | simp [h1]) d_Wir_word_20
  · refine zx_iload_n (pc := 4) hF d_Wir_word_4 rfl 1 rfl ?_
    refine zx_bipush (pc := 5) hF d_Wir_word_5 k_b16 ?_
    refine zx_icmp_ge (pc := 7) hF d_Wir_word_7 (tgt := 19) rfl (fun h7 => ?_) (fun h7 => ?_)
    · refine zx_iconst (pc := 19) hF d_Wir_word_19 k_i0 ?_
      exact zx_iret (pc := 20) hF hr hlk (by first | rfl | (simp only [if_neg h1, if_pos h7]; done) | (simp only [h1, h7, ↓reduceIte]; done) | simp [h1, h7]) (by first | rfl | (simp only [if_neg h1, if_pos h7]; done) | (simp only [h1, h7, ↓reduceIte]; done) | simp [h1, h7]) d_Wir_word_20
    · refine zx_aload_n (pc := 10) hF d_Wir_word_10 rfl 0 rfl ?_
      refine zg_Wir_11 (pc := 11) hF 0 rfl rfl d_Wir_word_11 ?_
      refine zx_iload_n (pc := 14) hF d_Wir_word_14 rfl 1 rfl ?_
      refine zx_iald (pc := 15) hF 1 rfl (zin (n := 16) (by omega) h1 h7) d_Wir_word_15 ?_
      refine zx_goto (pc := 16) hF d_Wir_word_16 (tgt := 20) rfl ?_
      exact zx_iret (pc := 20) hF hr hlk (by first | rfl | (simp only [if_neg h1, if_neg h7]; done) | (simp only [h1, h7, ↓reduceIte]; done) | simp [h1, h7]) (by first | rfl | (simp only [if_neg h1, if_neg h7]; done) | (simp only [h1, h7, ↓reduceIte]; done) | simp [h1, h7]) d_Wir_word_20
set_option maxRecDepth 20000 in
theorem M_Wir_putChecksum (l : Launch) (D : va_G) (K : Nat → ClassId) (M : List (ClassId × FieldType)) (a0 : Nat) (a1 : Nat) (w : Nat → Int32) (t : Nat) (ht : t + 4 < 16) (sz : Nat) : zM l y_Wir_putChecksum (zT y_Wir_putChecksum b_Wir_putChecksum 2 none) (zR 3 69) 0 0 D K M [.ref a0, .int (nI t)] [cO a0 10 [.ref a1], cI K a1 16 w] sz (zQv D K M [cO a0 10 [.ref a1], cI K a1 16 (f_ck w t)]) := by
  refine zx_head (by decide) (Nat.le_of_ble_eq_true rfl) ?_
  intro _ _ _ _ _ _ _ _ _ hF hr hlk hnm
  refine zx_aload_n (pc := 0) hF d_Wir_putChecksum_0 rfl 0 rfl ?_
  refine zg_Wir_11 (pc := 1) hF 0 rfl rfl d_Wir_putChecksum_1 ?_
  refine zx_iload_n (pc := 4) hF d_Wir_putChecksum_4 rfl 1 rfl ?_
  refine zx_iconst (pc := 5) hF d_Wir_putChecksum_5 k_i2 ?_
  refine zx_iadd (pc := 6) hF d_Wir_putChecksum_6 ?_
  refine zx_topi (nI (t + 2)) (nI_add t 2) ?_
  refine zx_dup2 (pc := 7) hF d_Wir_putChecksum_7 rfl rfl ?_
  refine zx_ialdn (pc := 8) hF (i := t + 2) 1 rfl (by omega) (by omega) d_Wir_putChecksum_8 ?_
  refine zx_aload_n (pc := 9) hF d_Wir_putChecksum_9 rfl 0 rfl ?_
  refine zg_Wir_11 (pc := 10) hF 0 rfl rfl d_Wir_putChecksum_10 ?_
  refine zx_iload_n (pc := 13) hF d_Wir_putChecksum_13 rfl 1 rfl ?_
  refine zx_ialdn (pc := 14) hF (i := t) 1 rfl (by omega) (by omega) d_Wir_putChecksum_14 ?_
  refine zx_aload_n (pc := 15) hF d_Wir_putChecksum_15 rfl 0 rfl ?_
  refine zg_Wir_11 (pc := 16) hF 0 rfl rfl d_Wir_putChecksum_16 ?_
  refine zx_iload_n (pc := 19) hF d_Wir_putChecksum_19 rfl 1 rfl ?_
  refine zx_iconst (pc := 20) hF d_Wir_putChecksum_20 k_i1 ?_
  refine zx_iadd (pc := 21) hF d_Wir_putChecksum_21 ?_
  refine zx_topi (nI (t + 1)) (nI_add t 1) ?_
  refine zx_ialdn (pc := 22) hF (i := t + 1) 1 rfl (by omega) (by omega) d_Wir_putChecksum_22 ?_
  refine zx_aload_n (pc := 23) hF d_Wir_putChecksum_23 rfl 0 rfl ?_
  refine zg_Wir_11 (pc := 24) hF 0 rfl rfl d_Wir_putChecksum_24 ?_
  refine zx_iload_n (pc := 27) hF d_Wir_putChecksum_27 rfl 1 rfl ?_
  refine zx_iconst (pc := 28) hF d_Wir_putChecksum_28 k_i2 ?_
  refine zx_iadd (pc := 29) hF d_Wir_putChecksum_29 ?_
  refine zx_topi (nI (t + 2)) (nI_add t 2) ?_
  refine zx_ialdn (pc := 30) hF (i := t + 2) 1 rfl (by omega) (by omega) d_Wir_putChecksum_30 ?_
  refine zx_aload_n (pc := 31) hF d_Wir_putChecksum_31 rfl 0 rfl ?_
  refine zg_Wir_11 (pc := 32) hF 0 rfl rfl d_Wir_putChecksum_32 ?_
  refine zx_iload_n (pc := 35) hF d_Wir_putChecksum_35 rfl 1 rfl ?_
  refine zx_iconst (pc := 36) hF d_Wir_putChecksum_36 k_i3 ?_
  refine zx_iadd (pc := 37) hF d_Wir_putChecksum_37 ?_
  refine zx_topi (nI (t + 3)) (nI_add t 3) ?_
  refine zx_ialdn (pc := 38) hF (i := t + 3) 1 rfl (by omega) (by omega) d_Wir_putChecksum_38 ?_
  refine zx_aload_n (pc := 39) hF d_Wir_putChecksum_39 rfl 0 rfl ?_
  refine zg_Wir_11 (pc := 40) hF 0 rfl rfl d_Wir_putChecksum_40 ?_
  refine zx_iload_n (pc := 43) hF d_Wir_putChecksum_43 rfl 1 rfl ?_
  refine zx_iconst (pc := 44) hF d_Wir_putChecksum_44 k_i4 ?_
  refine zx_iadd (pc := 45) hF d_Wir_putChecksum_45 ?_
  refine zx_topi (nI (t + 4)) (nI_add t 4) ?_
  refine zx_ialdn (pc := 46) hF (i := t + 4) 1 rfl (by omega) (by omega) d_Wir_putChecksum_46 ?_
  refine zx_Si (pc := 47) hF (As := [.int (w t), .int (w (t + 1)), .int (w (t + 2)), .int (w (t + 3)), .int (w (t + 4))]) (rest := [.int (w (t + 2)), .int (nI (t + 2)), .ref a1]) (fun sz => M_Sum_rightChecksum l D K M (w t) (w (t + 1)) (w (t + 2)) (w (t + 3)) (w (t + 4))  sz) [] rfl List.nodup_nil (as := []) rfl rfl (ws' := [cO a0 10 [.ref a1], cI K a1 16 w]) rfl (cw_Wir_34 hF.2.2.2.2.1 rfl rfl ⟨by decide, by decide⟩) rfl rfl (Nat.le_of_ble_eq_true rfl) d_Wir_putChecksum_47 ⟨Nat.zero_le _, Nat.zero_le _⟩ ?_
  refine zx_iadd (pc := 50) hF d_Wir_putChecksum_50 ?_
  refine zx_iastn (pc := 51) hF (i := t + 2) 1 rfl (by omega) (by omega) d_Wir_putChecksum_51 (ws' := [cO a0 10 [.ref a1], cI K a1 16 (upd w (t + 2) ((w (t + 2)) + (f_cks (w t) (w (t + 1)) (w (t + 2)) (w (t + 3)) (w (t + 4)))))]) rfl ?_
  exact zx_vret (pc := 52) hF hr hlk (by first | rfl | (simp only []; done) | (simp only [↓reduceIte]; done) | simp []) d_Wir_putChecksum_52
set_option maxRecDepth 20000 in
theorem M_Wir_putForward (l : Launch) (D : va_G) (K : Nat → ClassId) (M : List (ClassId × FieldType)) (a0 : Nat) (a1 : Nat) (w : Nat → Int32) (c0 : Nat) (kp : Nat → Int32) (st : Int32) (b : Int32) (k : Int32) (sz : Nat) : zM l y_Wir_putForward (zT y_Wir_putForward b_Wir_putForward 5 none) (zR 4 90) 0 0 D K M [.ref a0, .ref c0, .int st, .int b, .int k] [cO a0 10 [.ref a1], cI K a1 16 w, cI K c0 5 kp] sz (zQv D K M [cO a0 10 [.ref a1], cI K a1 16 (f_fwd w kp st b k), cI K c0 5 kp]) := by
  refine zx_head (by decide) (Nat.le_of_ble_eq_true rfl) ?_
  intro _ _ _ _ _ _ _ _ _ hF hr hlk hnm
  refine zx_aload_n (pc := 0) hF d_Wir_putForward_0 rfl 0 rfl ?_
  refine zg_Wir_11 (pc := 1) hF 0 rfl rfl d_Wir_putForward_1 ?_
  refine zx_iconst (pc := 4) hF d_Wir_putForward_4 k_i0 ?_
  refine zx_ldc (pc := 5) hF wk_Wir_15 d_Wir_putForward_5 ?_
  refine zx_aload_n (pc := 7) hF d_Wir_putForward_7 rfl 1 rfl ?_
  refine zx_iconst (pc := 8) hF d_Wir_putForward_8 k_i0 ?_
  refine zx_ialdn (pc := 9) hF (i := 0) 2 rfl (by omega) (by omega) d_Wir_putForward_9 ?_
  refine zx_ldc (pc := 10) hF wk_Wir_16 d_Wir_putForward_10 ?_
  refine zx_iand (pc := 12) hF d_Wir_putForward_12 ?_
  refine zx_iadd (pc := 13) hF d_Wir_putForward_13 ?_
  refine zx_iastn (pc := 14) hF (i := 0) 1 rfl (by omega) (by omega) d_Wir_putForward_14 (ws' := [cO a0 10 [.ref a1], cI K a1 16 (upd w 0 (1157627928 + ((kp 0) &&& 65535))), cI K c0 5 kp]) rfl ?_
  refine zx_aload_n (pc := 15) hF d_Wir_putForward_15 rfl 0 rfl ?_
  refine zg_Wir_11 (pc := 16) hF 0 rfl rfl d_Wir_putForward_16 ?_
  refine zx_iconst (pc := 19) hF d_Wir_putForward_19 k_i1 ?_
  refine zx_iload_n (pc := 20) hF d_Wir_putForward_20 rfl 2 rfl ?_
  refine zx_ldc (pc := 21) hF wk_Wir_17 d_Wir_putForward_21 ?_
  refine zx_imul (pc := 23) hF d_Wir_putForward_23 ?_
  refine zx_iastn (pc := 24) hF (i := 1) 1 rfl (by omega) (by omega) d_Wir_putForward_24 (ws' := [cO a0 10 [.ref a1], cI K a1 16 (upd (upd w 0 (1157627928 + ((kp 0) &&& 65535))) 1 (st * 65536)), cI K c0 5 kp]) rfl ?_
  refine zx_aload_n (pc := 25) hF d_Wir_putForward_25 rfl 0 rfl ?_
  refine zg_Wir_11 (pc := 26) hF 0 rfl rfl d_Wir_putForward_26 ?_
  refine zx_iconst (pc := 29) hF d_Wir_putForward_29 k_i2 ?_
  refine zx_ldc (pc := 30) hF wk_Wir_18 d_Wir_putForward_30 ?_
  refine zx_iastn (pc := 32) hF (i := 2) 1 rfl (by omega) (by omega) d_Wir_putForward_32 (ws' := [cO a0 10 [.ref a1], cI K a1 16 (upd (upd (upd w 0 (1157627928 + ((kp 0) &&& 65535))) 1 (st * 65536)) 2 1076822016), cI K c0 5 kp]) rfl ?_
  refine zx_aload_n (pc := 33) hF d_Wir_putForward_33 rfl 0 rfl ?_
  refine zg_Wir_11 (pc := 34) hF 0 rfl rfl d_Wir_putForward_34 ?_
  refine zx_iconst (pc := 37) hF d_Wir_putForward_37 k_i3 ?_
  refine zx_ldc (pc := 38) hF wk_Wir_19 d_Wir_putForward_38 ?_
  refine zx_iload_n (pc := 40) hF d_Wir_putForward_40 rfl 3 rfl ?_
  refine zx_iadd (pc := 41) hF d_Wir_putForward_41 ?_
  refine zx_iastn (pc := 42) hF (i := 3) 1 rfl (by omega) (by omega) d_Wir_putForward_42 (ws' := [cO a0 10 [.ref a1], cI K a1 16 (upd (upd (upd (upd w 0 (1157627928 + ((kp 0) &&& 65535))) 1 (st * 65536)) 2 1076822016) 3 (167772416 + b)), cI K c0 5 kp]) rfl ?_
  refine zx_aload_n (pc := 43) hF d_Wir_putForward_43 rfl 0 rfl ?_
  refine zg_Wir_11 (pc := 44) hF 0 rfl rfl d_Wir_putForward_44 ?_
  refine zx_iconst (pc := 47) hF d_Wir_putForward_47 k_i4 ?_
  refine zx_ldc (pc := 48) hF wk_Wir_20 d_Wir_putForward_48 ?_
  refine zx_iload (pc := 50) hF d_Wir_putForward_50 4 rfl ?_
  refine zx_iadd (pc := 52) hF d_Wir_putForward_52 ?_
  refine zx_iastn (pc := 53) hF (i := 4) 1 rfl (by omega) (by omega) d_Wir_putForward_53 (ws' := [cO a0 10 [.ref a1], cI K a1 16 (upd (upd (upd (upd (upd w 0 (1157627928 + ((kp 0) &&& 65535))) 1 (st * 65536)) 2 1076822016) 3 (167772416 + b)) 4 (167772672 + k)), cI K c0 5 kp]) rfl ?_
  refine zx_aload_n (pc := 54) hF d_Wir_putForward_54 rfl 0 rfl ?_
  refine zg_Wir_11 (pc := 55) hF 0 rfl rfl d_Wir_putForward_55 ?_
  refine zx_iconst (pc := 58) hF d_Wir_putForward_58 k_i5 ?_
  refine zx_sipush (pc := 59) hF d_Wir_putForward_59 k_s2048 ?_
  refine zx_iastn (pc := 62) hF (i := 5) 1 rfl (by omega) (by omega) d_Wir_putForward_62 (ws' := [cO a0 10 [.ref a1], cI K a1 16 (upd (upd (upd (upd (upd (upd w 0 (1157627928 + ((kp 0) &&& 65535))) 1 (st * 65536)) 2 1076822016) 3 (167772416 + b)) 4 (167772672 + k)) 5 2048), cI K c0 5 kp]) rfl ?_
  refine zx_aload_n (pc := 63) hF d_Wir_putForward_63 rfl 0 rfl ?_
  refine zx_iconst (pc := 64) hF d_Wir_putForward_64 k_i0 ?_
  refine zx_Vv (pc := 65) hF (As := [.int 0]) (rest := []) (fun sz => M_Wir_putChecksum l D K M a0 a1 (upd (upd (upd (upd (upd (upd w 0 (1157627928 + ((kp 0) &&& 65535))) 1 (st * 65536)) 2 1076822016) 3 (167772416 + b)) 4 (167772672 + k)) 5 2048) 0 (by first | assumption | omega) sz) [0, 1] rfl (by decide) (as := [a0, a1]) rfl rfl (ws' := [cO a0 10 [.ref a1], cI K a1 16 (f_ck (upd (upd (upd (upd (upd (upd w 0 (1157627928 + ((kp 0) &&& 65535))) 1 (st * 65536)) 2 1076822016) 3 (167772416 + b)) 4 (167772672 + k)) 5 2048) 0), cI K c0 5 kp]) rfl 0 10 rfl rfl rfl (cw_Wir_21 hF.2.2.2.2.1 rfl rfl ⟨by decide, by decide⟩) rfl rfl (Nat.le_of_ble_eq_true rfl) d_Wir_putForward_65 ⟨Nat.zero_le _, Nat.zero_le _⟩ ?_
  refine zx_aload_n (pc := 68) hF d_Wir_putForward_68 rfl 1 rfl ?_
  refine zx_iconst (pc := 69) hF d_Wir_putForward_69 k_i0 ?_
  refine zx_aload_n (pc := 70) hF d_Wir_putForward_70 rfl 0 rfl ?_
  refine zg_Wir_11 (pc := 71) hF 0 rfl rfl d_Wir_putForward_71 ?_
  refine zx_bipush (pc := 74) hF d_Wir_putForward_74 k_b6 ?_
  refine zx_aload_n (pc := 76) hF d_Wir_putForward_76 rfl 1 rfl ?_
  refine zx_alen (pc := 77) hF 2 0 rfl rfl (v := nI 5) rfl d_Wir_putForward_77 ?_
  refine zx_copy (pc := 78) hF wm_Wir_25 2 1 rfl rfl (sp := 0) (dp := 6) (n := 5) (by omega) (by omega) (by omega) (by omega) (Nat.le_of_ble_eq_true rfl) (Nat.le_of_ble_eq_true rfl) d_Wir_putForward_78 (ws' := [cO a0 10 [.ref a1], cI K a1 16 (va_cpy kp (f_ck (upd (upd (upd (upd (upd (upd w 0 (1157627928 + ((kp 0) &&& 65535))) 1 (st * 65536)) 2 1076822016) 3 (167772416 + b)) 4 (167772672 + k)) 5 2048) 0) 0 6 5), cI K c0 5 kp]) rfl ?_
  exact zx_vret (pc := 81) hF hr hlk (by first | rfl | (simp only []; done) | (simp only [↓reduceIte]; done) | simp []) d_Wir_putForward_81
set_option maxRecDepth 20000 in
theorem M_Wir_putAnswer (l : Launch) (D : va_G) (K : Nat → ClassId) (M : List (ClassId × FieldType)) (a0 : Nat) (a1 : Nat) (w : Nat → Int32) (st : Int32) (s0 : Int32) (sz : Nat) : zM l y_Wir_putAnswer (zT y_Wir_putAnswer b_Wir_putAnswer 3 none) (zR 4 90) 0 0 D K M [.ref a0, .int st, .int s0] [cO a0 10 [.ref a1], cI K a1 16 w] sz (zQv D K M [cO a0 10 [.ref a1], cI K a1 16 (f_ans w st s0)]) := by
  refine zx_head (by decide) (Nat.le_of_ble_eq_true rfl) ?_
  intro _ _ _ _ _ _ _ _ _ hF hr hlk hnm
  refine zx_aload_n (pc := 0) hF d_Wir_putAnswer_0 rfl 0 rfl ?_
  refine zg_Wir_11 (pc := 1) hF 0 rfl rfl d_Wir_putAnswer_1 ?_
  refine zx_bipush (pc := 4) hF d_Wir_putAnswer_4 k_b11 ?_
  refine zx_ldc (pc := 6) hF wk_Wir_31 d_Wir_putAnswer_6 ?_
  refine zx_iastn (pc := 8) hF (i := 11) 1 rfl (by omega) (by omega) d_Wir_putAnswer_8 (ws' := [cO a0 10 [.ref a1], cI K a1 16 (upd w 11 1157627944)]) rfl ?_
  refine zx_aload_n (pc := 9) hF d_Wir_putAnswer_9 rfl 0 rfl ?_
  refine zg_Wir_11 (pc := 10) hF 0 rfl rfl d_Wir_putAnswer_10 ?_
  refine zx_bipush (pc := 13) hF d_Wir_putAnswer_13 k_b12 ?_
  refine zx_iload_n (pc := 15) hF d_Wir_putAnswer_15 rfl 1 rfl ?_
  refine zx_ldc (pc := 16) hF wk_Wir_17 d_Wir_putAnswer_16 ?_
  refine zx_imul (pc := 18) hF d_Wir_putAnswer_18 ?_
  refine zx_iastn (pc := 19) hF (i := 12) 1 rfl (by omega) (by omega) d_Wir_putAnswer_19 (ws' := [cO a0 10 [.ref a1], cI K a1 16 (upd (upd w 11 1157627944) 12 (st * 65536))]) rfl ?_
  refine zx_aload_n (pc := 20) hF d_Wir_putAnswer_20 rfl 0 rfl ?_
  refine zg_Wir_11 (pc := 21) hF 0 rfl rfl d_Wir_putAnswer_21 ?_
  refine zx_bipush (pc := 24) hF d_Wir_putAnswer_24 k_b13 ?_
  refine zx_ldc (pc := 26) hF wk_Wir_32 d_Wir_putAnswer_26 ?_
  refine zx_iastn (pc := 28) hF (i := 13) 1 rfl (by omega) (by omega) d_Wir_putAnswer_28 (ws' := [cO a0 10 [.ref a1], cI K a1 16 (upd (upd (upd w 11 1157627944) 12 (st * 65536)) 13 1074135040)]) rfl ?_
  refine zx_aload_n (pc := 29) hF d_Wir_putAnswer_29 rfl 0 rfl ?_
  refine zg_Wir_11 (pc := 30) hF 0 rfl rfl d_Wir_putAnswer_30 ?_
  refine zx_bipush (pc := 33) hF d_Wir_putAnswer_33 k_b14 ?_
  refine zx_ldc (pc := 35) hF wk_Wir_33 d_Wir_putAnswer_35 ?_
  refine zx_iastn (pc := 37) hF (i := 14) 1 rfl (by omega) (by omega) d_Wir_putAnswer_37 (ws' := [cO a0 10 [.ref a1], cI K a1 16 (upd (upd (upd (upd w 11 1157627944) 12 (st * 65536)) 13 1074135040) 14 167772161)]) rfl ?_
  refine zx_aload_n (pc := 38) hF d_Wir_putAnswer_38 rfl 0 rfl ?_
  refine zg_Wir_11 (pc := 39) hF 0 rfl rfl d_Wir_putAnswer_39 ?_
  refine zx_bipush (pc := 42) hF d_Wir_putAnswer_42 k_b15 ?_
  refine zx_iload_n (pc := 44) hF d_Wir_putAnswer_44 rfl 2 rfl ?_
  refine zx_iastn (pc := 45) hF (i := 15) 1 rfl (by omega) (by omega) d_Wir_putAnswer_45 (ws' := [cO a0 10 [.ref a1], cI K a1 16 (upd (upd (upd (upd (upd w 11 1157627944) 12 (st * 65536)) 13 1074135040) 14 167772161) 15 s0)]) rfl ?_
  refine zx_aload_n (pc := 46) hF d_Wir_putAnswer_46 rfl 0 rfl ?_
  refine zx_bipush (pc := 47) hF d_Wir_putAnswer_47 k_b11 ?_
  refine zx_Vv (pc := 49) hF (As := [.int 11]) (rest := []) (fun sz => M_Wir_putChecksum l D K M a0 a1 (upd (upd (upd (upd (upd w 11 1157627944) 12 (st * 65536)) 13 1074135040) 14 167772161) 15 s0) 11 (by first | assumption | omega) sz) [0, 1] rfl (by decide) (as := [a0, a1]) rfl rfl (ws' := [cO a0 10 [.ref a1], cI K a1 16 (f_ck (upd (upd (upd (upd (upd w 11 1157627944) 12 (st * 65536)) 13 1074135040) 14 167772161) 15 s0) 11)]) rfl 0 10 rfl rfl rfl (cw_Wir_21 hF.2.2.2.2.1 rfl rfl ⟨by decide, by decide⟩) rfl rfl (Nat.le_of_ble_eq_true rfl) d_Wir_putAnswer_49 ⟨Nat.zero_le _, Nat.zero_le _⟩ ?_
  exact zx_vret (pc := 52) hF hr hlk (by first | rfl | (simp only []; done) | (simp only [↓reduceIte]; done) | simp []) d_Wir_putAnswer_52
set_option maxRecDepth 20000 in
theorem M_Wir_clearAnswer (l : Launch) (D : va_G) (K : Nat → ClassId) (M : List (ClassId × FieldType)) (a0 : Nat) (a1 : Nat) (w : Nat → Int32) (sz : Nat) : zM l y_Wir_clearAnswer (zT y_Wir_clearAnswer b_Wir_clearAnswer 2 none) (zR 0 0) 0 0 D K M [.ref a0] [cO a0 10 [.ref a1], cI K a1 16 w] sz (zQv D K M [cO a0 10 [.ref a1], cI K a1 16 (f_zero 5 11 w)]) := by
  refine zx_head (by decide) (Nat.le_of_ble_eq_true rfl) ?_
  intro _ _ _ _ _ _ _ _ _ hF hr hlk hnm
  refine zx_bipush (pc := 0) hF d_Wir_clearAnswer_0 k_b11 ?_
  refine zx_istore_n (pc := 2) hF (lv' := [(1, .int 11), (0, .ref a0)]) d_Wir_clearAnswer_2 rfl (by decide) rfl ?_
  refine zx_lv [1, 0] (lv' := [(0, .ref a0), (1, .int 11)]) rfl ?_
  refine zx_loop (pc := 3) (σ := Nat × (Nat → Int32)) (fun k zv => (zv.1 + k = 16) ∧ (f_zero k zv.1 zv.2 = f_zero 5 11 w)) (fun zv => [cO a0 10 [.ref a1], cI K a1 16 zv.2]) (fun zv => [(0, .ref a0), (1, .int (nI zv.1))]) 5 (11, w) ⟨rfl, rfl⟩ rfl rfl ?_
  intro k zv hI ih
  obtain ⟨j, w'⟩ := zv
  obtain ⟨hk, hX⟩ := hI
  replace hk : j + k = 16 := hk
  replace hX : f_zero k j w' = f_zero 5 11 w := hX
  refine zx_eq (ws' := [cO a0 10 [.ref a1], cI K a1 16 w']) (lv' := [(0, .ref a0), (1, .int (nI j))]) rfl rfl rfl ?_
  refine zx_iload_n (pc := 3) hF d_Wir_clearAnswer_3 rfl 1 rfl ?_
  refine zx_bipush (pc := 4) hF d_Wir_clearAnswer_4 k_b16 ?_
  refine zx_icmp_ge (pc := 6) hF d_Wir_clearAnswer_6 (tgt := 22) rfl (fun h6 => ?_) (fun h6 => ?_)
  · replace h6 : 16 ≤ j := (nI_leI (a := 16) (b := j) (by omega) (by omega)).mp h6
    exact zx_vret (pc := 22) hF hr hlk (by obtain rfl : k = 0 := (by omega); rw [← hX]; rfl) d_Wir_clearAnswer_22
  · replace h6 : ¬ 16 ≤ j := fun z => h6 ((nI_leI (a := 16) (b := j) (by omega) (by omega)).mpr z)
    refine zx_aload_n (pc := 9) hF d_Wir_clearAnswer_9 rfl 0 rfl ?_
    refine zg_Wir_11 (pc := 10) hF 0 rfl rfl d_Wir_clearAnswer_10 ?_
    refine zx_iload_n (pc := 13) hF d_Wir_clearAnswer_13 rfl 1 rfl ?_
    refine zx_iconst (pc := 14) hF d_Wir_clearAnswer_14 k_i0 ?_
    refine zx_iastn (pc := 15) hF (i := j) 1 rfl (by omega) (by omega) d_Wir_clearAnswer_15 (ws' := [cO a0 10 [.ref a1], cI K a1 16 (upd w' j 0)]) rfl ?_
    refine zx_iinc (pc := 16) hF (v := nI (j + 1)) (lv' := [(1, .int (nI (j + 1))), (0, .ref a0)]) d_Wir_clearAnswer_16 1 rfl (zinc j) (by decide) rfl ?_
    refine zx_goto (pc := 19) hF d_Wir_clearAnswer_19 (tgt := 3) rfl ?_
    refine zx_lv [1, 0] (lv' := [(0, .ref a0), (1, .int (nI (j + 1)))]) rfl ?_
    exact ih (k - 1) (j + 1, upd w' j 0) (by omega) ⟨by first | omega | (dsimp only; omega) | dsimp only, by obtain ⟨k', rfl⟩ : ∃ k', k = k' + 1 := ⟨k - 1, by omega⟩; exact hX⟩
set_option maxRecDepth 20000 in
theorem M_Ent_patienceAfter (l : Launch) (D : va_G) (K : Nat → ClassId) (M : List (ClassId × FieldType)) (fl : Int32) (sz : Nat) : zM l y_Ent_patienceAfter (zT y_Ent_patienceAfter b_Ent_patienceAfter 1 (some .int)) (zR 0 0) 0 0 D K M [.int fl] [] sz (zQi D K M (f_pat fl) []) := by
  refine zx_head (by decide) (Nat.le_of_ble_eq_true rfl) ?_
  intro _ _ _ _ _ _ _ _ _ hF hr hlk hnm
  refine zx_iload_n (pc := 0) hF d_Ent_patienceAfter_0 rfl 0 rfl ?_
  refine zx_iconst (pc := 1) hF d_Ent_patienceAfter_1 k_i2 ?_
  refine zx_icmp_ne (pc := 2) hF d_Ent_patienceAfter_2 (tgt := 7) rfl (fun h2 => ?_) (fun h2 => ?_)
  · refine zx_iload_n (pc := 7) hF d_Ent_patienceAfter_7 rfl 0 rfl ?_
    refine zx_bipush (pc := 8) hF d_Ent_patienceAfter_8 k_b16 ?_
    refine zx_icmp_ne (pc := 10) hF d_Ent_patienceAfter_10 (tgt := 18) rfl (fun h10 => ?_) (fun h10 => ?_)
    · refine zx_iconst (pc := 18) hF d_Ent_patienceAfter_18 k_i2 ?_
      exact zx_iret (pc := 19) hF hr hlk (by first | with_reducible rfl | (simp only [f_pat, if_neg h2, if_neg h10]; done) | (simp only [f_pat, h2, h10, ↓reduceIte]; done) | simp [f_pat, h2, h10]) (by first | with_reducible rfl | (simp only [f_pat, if_neg h2, if_neg h10]; done) | (simp only [f_pat, h2, h10, ↓reduceIte]; done) | simp [f_pat, h2, h10]) d_Ent_patienceAfter_19
    · refine zx_bipush (pc := 13) hF d_Ent_patienceAfter_13 k_b16 ?_
      refine zx_goto (pc := 15) hF d_Ent_patienceAfter_15 (tgt := 19) rfl ?_
      exact zx_iret (pc := 19) hF hr hlk (by first | with_reducible rfl | (simp only [f_pat, if_neg h2, if_pos h10]; done) | (simp only [f_pat, h2, h10, ↓reduceIte]; done) | simp [f_pat, h2, h10]) (by first | with_reducible rfl | (simp only [f_pat, if_neg h2, if_pos h10]; done) | (simp only [f_pat, h2, h10, ↓reduceIte]; done) | simp [f_pat, h2, h10]) d_Ent_patienceAfter_19
  · refine zx_iconst (pc := 5) hF d_Ent_patienceAfter_5 k_i4 ?_
    exact zx_iret (pc := 6) hF hr hlk (by first | with_reducible rfl | (simp only [f_pat, if_pos h2]; done) | (simp only [f_pat, h2, ↓reduceIte]; done) | simp [f_pat, h2]) (by first | with_reducible rfl | (simp only [f_pat, if_pos h2]; done) | (simp only [f_pat, h2, ↓reduceIte]; done) | simp [f_pat, h2]) d_Ent_patienceAfter_6
set_option maxRecDepth 20000 in
theorem M_Ent_serverOf (l : Launch) (D : va_G) (K : Nat → ClassId) (M : List (ClassId × FieldType)) (e0 : Nat) (e1 : Nat) (e2 : Nat) (e3 : Nat) (a0 : Nat) (a1 : Nat) (a2 : Nat) (a3 : Nat) (src : Nat → Int32) (prt : Nat → Int32) (use : Nat → Int32) (cnt : Int32) (sv : Nat → Int32) (pat : Nat → Int32) (lu : Nat → Int32) (s0 : Int32) (p0 : Int32) (sz : Nat) : zM l y_Ent_serverOf (zT y_Ent_serverOf b_Ent_serverOf 4 (some .int)) (zR 1 23) 0 0 D K M [.ref e0, .int s0, .int p0] [cO e0 3 [.ref a0, .ref e1, .ref e2, .ref e3], cO a0 6 [.ref a1, .ref a2, .ref a3, .int cnt], cI K a1 8 src, cI K a2 8 prt, cZ K a3 8 use, cI K e1 8 sv, cI K e2 8 pat, cI K e3 8 lu] sz (zQi D K M (if f_find use src prt 8 s0 p0 = -1 then -1 else sv (f_find use src prt 8 s0 p0).toNatClampNeg) [cO e0 3 [.ref a0, .ref e1, .ref e2, .ref e3], cO a0 6 [.ref a1, .ref a2, .ref a3, .int cnt], cI K a1 8 src, cI K a2 8 prt, cZ K a3 8 use, cI K e1 8 sv, cI K e2 8 pat, cI K e3 8 lu]) := by
  refine zx_head (by decide) (Nat.le_of_ble_eq_true rfl) ?_
  intro _ _ _ _ _ _ _ _ _ hF hr hlk hnm
  refine zx_aload_n (pc := 0) hF d_Ent_serverOf_0 rfl 0 rfl ?_
  refine zg_Ent_16 (pc := 1) hF 0 rfl rfl d_Ent_serverOf_1 ?_
  refine zx_iload_n (pc := 4) hF d_Ent_serverOf_4 rfl 1 rfl ?_
  refine zx_iload_n (pc := 5) hF d_Ent_serverOf_5 rfl 2 rfl ?_
  refine zx_Vi (pc := 6) hF (As := [.int s0, .int p0]) (rest := []) (fun sz => M_Slo_find l D K M a0 a1 a2 a3 8 src prt use cnt s0 p0 (by first | assumption | omega) sz) [1, 2, 3, 4] rfl (by decide) (as := [a0, a1, a2, a3]) rfl rfl (ws' := [cO e0 3 [.ref a0, .ref e1, .ref e2, .ref e3], cO a0 6 [.ref a1, .ref a2, .ref a3, .int cnt], cI K a1 8 src, cI K a2 8 prt, cZ K a3 8 use, cI K e1 8 sv, cI K e2 8 pat, cI K e3 8 lu]) rfl 0 6 rfl rfl rfl (cw_Ent_30 hF.2.2.2.2.1 rfl rfl ⟨by decide, by decide⟩) rfl rfl (Nat.le_of_ble_eq_true rfl) d_Ent_serverOf_6 ⟨Nat.zero_le _, Nat.zero_le _⟩ ?_
  refine zx_istore_n (pc := 9) hF (lv' := [(3, .int (f_find use src prt 8 s0 p0)), (0, .ref e0), (1, .int s0), (2, .int p0)]) d_Ent_serverOf_9 rfl (by decide) rfl ?_
  refine zx_iload_n (pc := 10) hF d_Ent_serverOf_10 rfl 0 rfl ?_
  refine zx_iconst (pc := 11) hF d_Ent_serverOf_11 k_im1 ?_
  refine zx_icmp_ne (pc := 12) hF d_Ent_serverOf_12 (tgt := 19) rfl (fun h12 => ?_) (fun h12 => ?_)
  · refine zx_aload_n (pc := 19) hF d_Ent_serverOf_19 rfl 1 rfl ?_
    refine zg_Ent_20 (pc := 20) hF 0 rfl rfl d_Ent_serverOf_20 ?_
    refine zx_iload_n (pc := 23) hF d_Ent_serverOf_23 rfl 0 rfl ?_
    refine zx_topi (nI (Int32.toNatClampNeg (f_find use src prt 8 s0 p0))) ((f_find_cl (by omega) h12).1) ?_
    refine zx_ialdn (pc := 24) hF (i := Int32.toNatClampNeg (f_find use src prt 8 s0 p0)) 5 rfl (f_find_cl (by omega) h12).2 (by omega) d_Ent_serverOf_24 ?_
    exact zx_iret (pc := 25) hF hr hlk (by first | rfl | (simp only [if_neg h12]; done) | (simp only [h12, ↓reduceIte]; done) | simp [h12]) (by first | rfl | (simp only [if_neg h12]; done) | (simp only [h12, ↓reduceIte]; done) | simp [h12]) d_Ent_serverOf_25
  · refine zx_iconst (pc := 15) hF d_Ent_serverOf_15 k_im1 ?_
    refine zx_goto (pc := 16) hF d_Ent_serverOf_16 (tgt := 25) rfl ?_
    exact zx_iret (pc := 25) hF hr hlk (by first | rfl | (simp only [if_pos h12]; done) | (simp only [h12, ↓reduceIte]; done) | simp [h12]) (by first | rfl | (simp only [if_pos h12]; done) | (simp only [h12, ↓reduceIte]; done) | simp [h12]) d_Ent_serverOf_25
