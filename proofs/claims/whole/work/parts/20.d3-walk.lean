set_option maxRecDepth 20000 in
theorem M_Srv_goOn (l : Launch) (D : va_G) (K : Nat → ClassId) (M : List (ClassId × FieldType)) (v0 : Nat) (v1 : Nat) (v2 : Nat) (t0 : Nat) (a0 : Nat) (a1 : Nat) (a2 : Nat) (a3 : Nat) (src : Nat → Int32) (prt : Nat → Int32) (use : Nat → Int32) (cnt : Int32) (on : Int32) (tk : Int32) (nx : Nat → Int32) (dt : Nat → Int32) (j : Nat) (sq : Int32) (fl : Int32) (hj : j < 10) (sz : Nat) : zM l y_Srv_goOn (zT y_Srv_goOn b_Srv_goOn 5 (some .int)) (zR 1 21) 0 0 D K M [.ref v0, .int (nI j), .int sq, .int fl] [cO v0 5 [.ref a0, .ref t0, .int on, .int tk, .ref v1, .ref v2], cO a0 6 [.ref a1, .ref a2, .ref a3, .int cnt], cI K a1 10 src, cI K a2 10 prt, cZ K a3 10 use, cI K v1 10 nx, cI K v2 10 dt] sz (zQi D K M (f_gor nx j sq fl) [cO v0 5 [.ref a0, .ref t0, .int on, .int (f_goi nx dt j sq fl j), .ref v1, .ref v2], cO a0 6 [.ref a1, .ref a2, .ref a3, .int (f_gon nx use cnt j sq fl)], cI K a1 10 src, cI K a2 10 prt, cZ K a3 10 (f_gou nx use j sq fl), cI K v1 10 (f_goi nx nx j sq fl), cI K v2 10 (f_goi nx dt j sq fl)]) := by
  refine zx_head (by decide) (Nat.le_of_ble_eq_true rfl) ?_
  intro _ _ _ _ _ _ _ _ _ hF hr hlk hnm
  refine zx_iload_n (pc := 0) hF d_Srv_goOn_0 rfl 2 rfl ?_
  refine zx_aload_n (pc := 1) hF d_Srv_goOn_1 rfl 0 rfl ?_
  refine zg_Srv_31 (pc := 2) hF 0 rfl rfl d_Srv_goOn_2 ?_
  refine zx_iload_n (pc := 5) hF d_Srv_goOn_5 rfl 1 rfl ?_
  refine zx_ialdn (pc := 6) hF (i := j) 5 rfl (by omega) (by omega) d_Srv_goOn_6 ?_
  refine zx_icmp_ne (pc := 7) hF d_Srv_goOn_7 (tgt := 14) rfl (fun h7 => ?_) (fun h7 => ?_)
  · refine zx_iconst (pc := 14) hF d_Srv_goOn_14 k_i0 ?_
    refine zx_istore (pc := 15) hF (lv' := [(4, .int 0), (0, .ref v0), (1, .int (nI j)), (2, .int sq), (3, .int fl)]) d_Srv_goOn_15 (by decide) rfl ?_
    refine zx_iload (pc := 17) hF d_Srv_goOn_17 0 rfl ?_
    refine zx_if_eq (pc := 19) hF d_Srv_goOn_19 (tgt := 48) rfl (fun h19 => ?_) (fun h19 => ?_)
    · refine zx_aload_n (pc := 48) hF d_Srv_goOn_48 rfl 1 rfl ?_
      refine zx_aload_n (pc := 49) hF d_Srv_goOn_49 rfl 1 rfl ?_
      refine zg_Srv_35 (pc := 50) hF 0 rfl rfl d_Srv_goOn_50 ?_
      refine zx_iload_n (pc := 53) hF d_Srv_goOn_53 rfl 2 rfl ?_
      refine zx_ialdn (pc := 54) hF (i := j) 6 rfl (by omega) (by omega) d_Srv_goOn_54 ?_
      refine zp_Srv_41 (pc := 55) hF 0 rfl (Nat.le_of_ble_eq_true rfl) d_Srv_goOn_55 (ws' := [cO v0 5 [.ref a0, .ref t0, .int on, .int (dt j), .ref v1, .ref v2], cO a0 6 [.ref a1, .ref a2, .ref a3, .int cnt], cI K a1 10 src, cI K a2 10 prt, cZ K a3 10 use, cI K v1 10 nx, cI K v2 10 dt]) rfl ?_
      refine zx_iload (pc := 58) hF d_Srv_goOn_58 0 rfl ?_
      refine zx_if_ne (pc := 60) hF d_Srv_goOn_60 (tgt := 65) rfl (fun h60 => ?_) (fun h60 => ?_)
      · exact absurd h60 (by decide)
      · refine zx_iconst (pc := 63) hF d_Srv_goOn_63 k_i3 ?_
        exact zx_iret (pc := 64) hF hr hlk (by first | with_reducible rfl | (simp only [f_gor, f_goi, f_gou, f_gon, pk_us, if_neg h7]; done) | (simp only [f_gor, f_goi, f_gou, f_gon, pk_us, h7, ↓reduceIte]; done) | simp [f_gor, f_goi, f_gou, f_gon, pk_us, h7]) (by first | with_reducible rfl | (simp only [f_gor, f_goi, f_gou, f_gon, pk_us, if_neg h7]; done) | (simp only [f_gor, f_goi, f_gou, f_gon, pk_us, h7, ↓reduceIte]; done) | simp [f_gor, f_goi, f_gou, f_gon, pk_us, h7]) d_Srv_goOn_64
    · exact absurd h19 (by decide)
  · refine zx_iconst (pc := 10) hF d_Srv_goOn_10 k_i1 ?_
    refine zx_goto (pc := 11) hF d_Srv_goOn_11 (tgt := 15) rfl ?_
    refine zx_istore (pc := 15) hF (lv' := [(4, .int 1), (0, .ref v0), (1, .int (nI j)), (2, .int sq), (3, .int fl)]) d_Srv_goOn_15 (by decide) rfl ?_
    refine zx_iload (pc := 17) hF d_Srv_goOn_17 0 rfl ?_
    refine zx_if_eq (pc := 19) hF d_Srv_goOn_19 (tgt := 48) rfl (fun h19 => ?_) (fun h19 => ?_)
    · exact absurd h19 (by decide)
    · refine zx_iload_n (pc := 22) hF d_Srv_goOn_22 rfl 4 rfl ?_
      refine zx_bipush (pc := 23) hF d_Srv_goOn_23 k_b16 ?_
      refine zx_icmp_ne (pc := 25) hF d_Srv_goOn_25 (tgt := 48) rfl (fun h25 => ?_) (fun h25 => ?_)
      · refine zx_aload_n (pc := 48) hF d_Srv_goOn_48 rfl 1 rfl ?_
        refine zx_aload_n (pc := 49) hF d_Srv_goOn_49 rfl 1 rfl ?_
        refine zg_Srv_35 (pc := 50) hF 0 rfl rfl d_Srv_goOn_50 ?_
        refine zx_iload_n (pc := 53) hF d_Srv_goOn_53 rfl 2 rfl ?_
        refine zx_ialdn (pc := 54) hF (i := j) 6 rfl (by omega) (by omega) d_Srv_goOn_54 ?_
        refine zp_Srv_41 (pc := 55) hF 0 rfl (Nat.le_of_ble_eq_true rfl) d_Srv_goOn_55 (ws' := [cO v0 5 [.ref a0, .ref t0, .int on, .int (dt j), .ref v1, .ref v2], cO a0 6 [.ref a1, .ref a2, .ref a3, .int cnt], cI K a1 10 src, cI K a2 10 prt, cZ K a3 10 use, cI K v1 10 nx, cI K v2 10 dt]) rfl ?_
        refine zx_iload (pc := 58) hF d_Srv_goOn_58 0 rfl ?_
        refine zx_if_ne (pc := 60) hF d_Srv_goOn_60 (tgt := 65) rfl (fun h60 => ?_) (fun h60 => ?_)
        · refine zx_iload_n (pc := 65) hF d_Srv_goOn_65 rfl 4 rfl ?_
          refine zx_bipush (pc := 66) hF d_Srv_goOn_66 k_b16 ?_
          refine zx_icmp_ne (pc := 68) hF d_Srv_goOn_68 (tgt := 73) rfl (fun h68 => ?_) (fun h68 => ?_)
          · refine zx_aload_n (pc := 73) hF d_Srv_goOn_73 rfl 1 rfl ?_
            refine zg_Srv_16 (pc := 74) hF 0 rfl rfl d_Srv_goOn_74 ?_
            refine zx_iload_n (pc := 77) hF d_Srv_goOn_77 rfl 2 rfl ?_
            refine zx_Vv (pc := 78) hF (As := [.int (nI j)]) (rest := []) (fun sz => M_Slo_release l D K M a0 a1 a2 a3 10 src prt use cnt j (by first | assumption | omega) (by first | assumption | omega) sz) [1, 2, 3, 4] rfl (by decide) (as := [a0, a1, a2, a3]) rfl rfl (ws' := [cO v0 5 [.ref a0, .ref t0, .int on, .int (dt j), .ref v1, .ref v2], cO a0 6 [.ref a1, .ref a2, .ref a3, .int (f_rn use cnt j)], cI K a1 10 src, cI K a2 10 prt, cZ K a3 10 (f_ru use j), cI K v1 10 nx, cI K v2 10 dt]) rfl 0 6 rfl rfl rfl (cw_Srv_55 hF.2.2.2.2.1 rfl rfl ⟨by decide, by decide⟩) rfl rfl (Nat.le_of_ble_eq_true rfl) d_Srv_goOn_78 ⟨Nat.zero_le _, Nat.zero_le _⟩ ?_
            refine zx_iconst (pc := 81) hF d_Srv_goOn_81 k_i5 ?_
            exact zx_iret (pc := 82) hF hr hlk (by first | with_reducible rfl | (simp only [f_gor, f_goi, f_gou, f_gon, pk_us, if_pos h7, if_neg h25, if_neg h68]; done) | (simp only [f_gor, f_goi, f_gou, f_gon, pk_us, h7, h25, h68, ↓reduceIte]; done) | simp [f_gor, f_goi, f_gou, f_gon, pk_us, h7, h25, h68]) (by first | with_reducible rfl | (simp only [f_gor, f_goi, f_gou, f_gon, pk_us, if_pos h7, if_neg h25, if_neg h68]; done) | (simp only [f_gor, f_goi, f_gou, f_gon, pk_us, h7, h25, h68, ↓reduceIte]; done) | simp [f_gor, f_goi, f_gou, f_gon, pk_us, h7, h25, h68]) d_Srv_goOn_82
          · exact absurd h68 h25
        · exact absurd h60 (by decide)
      · refine zx_aload_n (pc := 28) hF d_Srv_goOn_28 rfl 1 rfl ?_
        refine zg_Srv_31 (pc := 29) hF 0 rfl rfl d_Srv_goOn_29 ?_
        refine zx_iload_n (pc := 32) hF d_Srv_goOn_32 rfl 2 rfl ?_
        refine zx_dup2 (pc := 33) hF d_Srv_goOn_33 rfl rfl ?_
        refine zx_ialdn (pc := 34) hF (i := j) 5 rfl (by omega) (by omega) d_Srv_goOn_34 ?_
        refine zx_iconst (pc := 35) hF d_Srv_goOn_35 k_i1 ?_
        refine zx_iadd (pc := 36) hF d_Srv_goOn_36 ?_
        refine zx_iastn (pc := 37) hF (i := j) 5 rfl (by omega) (by omega) d_Srv_goOn_37 (ws' := [cO v0 5 [.ref a0, .ref t0, .int on, .int tk, .ref v1, .ref v2], cO a0 6 [.ref a1, .ref a2, .ref a3, .int cnt], cI K a1 10 src, cI K a2 10 prt, cZ K a3 10 use, cI K v1 10 (upd nx j ((nx j) + 1)), cI K v2 10 dt]) rfl ?_
        refine zx_aload_n (pc := 38) hF d_Srv_goOn_38 rfl 1 rfl ?_
        refine zg_Srv_35 (pc := 39) hF 0 rfl rfl d_Srv_goOn_39 ?_
        refine zx_iload_n (pc := 42) hF d_Srv_goOn_42 rfl 2 rfl ?_
        refine zx_dup2 (pc := 43) hF d_Srv_goOn_43 rfl rfl ?_
        refine zx_ialdn (pc := 44) hF (i := j) 6 rfl (by omega) (by omega) d_Srv_goOn_44 ?_
        refine zx_iconst (pc := 45) hF d_Srv_goOn_45 k_i1 ?_
        refine zx_iadd (pc := 46) hF d_Srv_goOn_46 ?_
        refine zx_iastn (pc := 47) hF (i := j) 6 rfl (by omega) (by omega) d_Srv_goOn_47 (ws' := [cO v0 5 [.ref a0, .ref t0, .int on, .int tk, .ref v1, .ref v2], cO a0 6 [.ref a1, .ref a2, .ref a3, .int cnt], cI K a1 10 src, cI K a2 10 prt, cZ K a3 10 use, cI K v1 10 (upd nx j ((nx j) + 1)), cI K v2 10 (upd dt j ((dt j) + 1))]) rfl ?_
        refine zx_aload_n (pc := 48) hF d_Srv_goOn_48 rfl 1 rfl ?_
        refine zx_aload_n (pc := 49) hF d_Srv_goOn_49 rfl 1 rfl ?_
        refine zg_Srv_35 (pc := 50) hF 0 rfl rfl d_Srv_goOn_50 ?_
        refine zx_iload_n (pc := 53) hF d_Srv_goOn_53 rfl 2 rfl ?_
        refine zx_ialdn (pc := 54) hF (i := j) 6 rfl (by omega) (by omega) d_Srv_goOn_54 ?_
        refine zx_topi ((dt j) + 1) (pk_us) ?_
        refine zp_Srv_41 (pc := 55) hF 0 rfl (Nat.le_of_ble_eq_true rfl) d_Srv_goOn_55 (ws' := [cO v0 5 [.ref a0, .ref t0, .int on, .int ((dt j) + 1), .ref v1, .ref v2], cO a0 6 [.ref a1, .ref a2, .ref a3, .int cnt], cI K a1 10 src, cI K a2 10 prt, cZ K a3 10 use, cI K v1 10 (upd nx j ((nx j) + 1)), cI K v2 10 (upd dt j ((dt j) + 1))]) rfl ?_
        refine zx_iload (pc := 58) hF d_Srv_goOn_58 0 rfl ?_
        refine zx_if_ne (pc := 60) hF d_Srv_goOn_60 (tgt := 65) rfl (fun h60 => ?_) (fun h60 => ?_)
        · refine zx_iload_n (pc := 65) hF d_Srv_goOn_65 rfl 4 rfl ?_
          refine zx_bipush (pc := 66) hF d_Srv_goOn_66 k_b16 ?_
          refine zx_icmp_ne (pc := 68) hF d_Srv_goOn_68 (tgt := 73) rfl (fun h68 => ?_) (fun h68 => ?_)
          · exact absurd h25 h68
          · refine zx_iconst (pc := 71) hF d_Srv_goOn_71 k_i2 ?_
            exact zx_iret (pc := 72) hF hr hlk (by first | with_reducible rfl | (simp only [f_gor, f_goi, f_gou, f_gon, pk_us, if_pos h7, if_pos h25, if_pos h68]; done) | (simp only [f_gor, f_goi, f_gou, f_gon, pk_us, h7, h25, h68, ↓reduceIte]; done) | simp [f_gor, f_goi, f_gou, f_gon, pk_us, h7, h25, h68]) (by first | with_reducible rfl | (simp only [f_gor, f_goi, f_gou, f_gon, pk_us, if_pos h7, if_pos h25, if_pos h68]; done) | (simp only [f_gor, f_goi, f_gou, f_gon, pk_us, h7, h25, h68, ↓reduceIte]; done) | simp [f_gor, f_goi, f_gou, f_gon, pk_us, h7, h25, h68]) d_Srv_goOn_72
        · exact absurd h60 (by decide)
set_option maxRecDepth 20000 in
theorem M_Srv_receive (l : Launch) (D : va_G) (K : Nat → ClassId) (M : List (ClassId × FieldType)) (v0 : Nat) (v1 : Nat) (v2 : Nat) (t0 : Nat) (a0 : Nat) (a1 : Nat) (a2 : Nat) (a3 : Nat) (src : Nat → Int32) (prt : Nat → Int32) (use : Nat → Int32) (cnt : Int32) (on : Int32) (tk : Int32) (nx : Nat → Int32) (dt : Nat → Int32) (s0 : Int32) (p0 : Int32) (sq : Int32) (fl : Int32) (sz : Nat) : zM l y_Srv_receive (zT y_Srv_receive b_Srv_receive 6 (some .int)) (zR 2 47) 0 0 D K M [.ref v0, .int s0, .int p0, .int sq, .int fl] [cO v0 5 [.ref a0, .ref t0, .int on, .int tk, .ref v1, .ref v2], cO a0 6 [.ref a1, .ref a2, .ref a3, .int cnt], cI K a1 10 src, cI K a2 10 prt, cZ K a3 10 use, cI K v1 10 nx, cI K v2 10 dt] sz (zQi D K M (f_rec nx dt use src prt cnt s0 p0 sq fl).1 [cO v0 5 [.ref a0, .ref t0, .int on, .int (f_rec nx dt use src prt cnt s0 p0 sq fl).2.1, .ref v1, .ref v2], cO a0 6 [.ref a1, .ref a2, .ref a3, .int (f_rec nx dt use src prt cnt s0 p0 sq fl).2.2.2.2.2], cI K a1 10 (f_put src (f_rnew fl use src prt s0 p0) s0), cI K a2 10 (f_put prt (f_rnew fl use src prt s0 p0) p0), cZ K a3 10 (f_rec nx dt use src prt cnt s0 p0 sq fl).2.2.2.2.1, cI K v1 10 (f_rec nx dt use src prt cnt s0 p0 sq fl).2.2.1, cI K v2 10 (f_rec nx dt use src prt cnt s0 p0 sq fl).2.2.2.1]) := by
  refine zx_head (by decide) (Nat.le_of_ble_eq_true rfl) ?_
  intro _ _ _ _ _ _ _ _ _ hF hr hlk hnm
  refine zx_aload_n (pc := 0) hF d_Srv_receive_0 rfl 0 rfl ?_
  refine zx_iconst (pc := 1) hF d_Srv_receive_1 k_i0 ?_
  refine zp_Srv_41 (pc := 2) hF 0 rfl (Nat.le_of_ble_eq_true rfl) d_Srv_receive_2 (ws' := [cO v0 5 [.ref a0, .ref t0, .int on, .int 0, .ref v1, .ref v2], cO a0 6 [.ref a1, .ref a2, .ref a3, .int cnt], cI K a1 10 src, cI K a2 10 prt, cZ K a3 10 use, cI K v1 10 nx, cI K v2 10 dt]) rfl ?_
  refine zx_iload (pc := 5) hF d_Srv_receive_5 4 rfl ?_
  refine zx_iconst (pc := 7) hF d_Srv_receive_7 k_i2 ?_
  refine zx_icmp_ne (pc := 8) hF d_Srv_receive_8 (tgt := 26) rfl (fun h8 => ?_) (fun h8 => ?_)
  · refine zx_aload_n (pc := 26) hF d_Srv_receive_26 rfl 0 rfl ?_
    refine zg_Srv_16 (pc := 27) hF 0 rfl rfl d_Srv_receive_27 ?_
    refine zx_iload_n (pc := 30) hF d_Srv_receive_30 rfl 1 rfl ?_
    refine zx_iload_n (pc := 31) hF d_Srv_receive_31 rfl 2 rfl ?_
    refine zx_Vi (pc := 32) hF (As := [.int s0, .int p0]) (rest := []) (fun sz => M_Slo_find l D K M a0 a1 a2 a3 10 src prt use cnt s0 p0 (by first | assumption | omega) sz) [1, 2, 3, 4] rfl (by decide) (as := [a0, a1, a2, a3]) rfl rfl (ws' := [cO v0 5 [.ref a0, .ref t0, .int on, .int 0, .ref v1, .ref v2], cO a0 6 [.ref a1, .ref a2, .ref a3, .int cnt], cI K a1 10 src, cI K a2 10 prt, cZ K a3 10 use, cI K v1 10 nx, cI K v2 10 dt]) rfl 0 6 rfl rfl rfl (cw_Srv_52 hF.2.2.2.2.1 rfl rfl ⟨by decide, by decide⟩) rfl rfl (Nat.le_of_ble_eq_true rfl) d_Srv_receive_32 ⟨Nat.zero_le _, Nat.zero_le _⟩ ?_
    refine zx_istore (pc := 35) hF (lv' := [(5, .int (f_find use src prt 10 s0 p0)), (0, .ref v0), (1, .int s0), (2, .int p0), (3, .int sq), (4, .int fl)]) d_Srv_receive_35 (by decide) rfl ?_
    refine zx_iload (pc := 37) hF d_Srv_receive_37 5 rfl ?_
    refine zx_iconst (pc := 39) hF d_Srv_receive_39 k_i4 ?_
    refine zx_icmp_ne (pc := 40) hF d_Srv_receive_40 (tgt := 60) rfl (fun h40 => ?_) (fun h40 => ?_)
    · refine zx_iload (pc := 60) hF d_Srv_receive_60 0 rfl ?_
      refine zx_iconst (pc := 62) hF d_Srv_receive_62 k_im1 ?_
      refine zx_icmp_ne (pc := 63) hF d_Srv_receive_63 (tgt := 70) rfl (fun h63 => ?_) (fun h63 => ?_)
      · refine zx_aload_n (pc := 70) hF d_Srv_receive_70 rfl 1 rfl ?_
        refine zx_iload (pc := 71) hF d_Srv_receive_71 0 rfl ?_
        refine zx_topi (nI (Int32.toNatClampNeg (f_find use src prt 10 s0 p0))) ((f_find_cl (by omega) h63).1) ?_
        refine zx_iload_n (pc := 73) hF d_Srv_receive_73 rfl 4 rfl ?_
        refine zx_iload (pc := 74) hF d_Srv_receive_74 5 rfl ?_
        refine zx_Vi (pc := 76) hF (As := [.int (nI (Int32.toNatClampNeg (f_find use src prt 10 s0 p0))), .int sq, .int fl]) (rest := []) (fun sz => M_Srv_goOn l D K M v0 v1 v2 t0 a0 a1 a2 a3 src prt use cnt on 0 nx dt (Int32.toNatClampNeg (f_find use src prt 10 s0 p0)) sq fl (f_find_cl (by omega) h63).2 sz) [0, 1, 2, 3, 4, 5, 6] rfl (by decide) (as := [v0, a0, a1, a2, a3, v1, v2]) rfl rfl (ws' := [cO v0 5 [.ref a0, .ref t0, .int on, .int (f_goi nx dt (Int32.toNatClampNeg (f_find use src prt 10 s0 p0)) sq fl (Int32.toNatClampNeg (f_find use src prt 10 s0 p0))), .ref v1, .ref v2], cO a0 6 [.ref a1, .ref a2, .ref a3, .int (f_gon nx use cnt (Int32.toNatClampNeg (f_find use src prt 10 s0 p0)) sq fl)], cI K a1 10 src, cI K a2 10 prt, cZ K a3 10 (f_gou nx use (Int32.toNatClampNeg (f_find use src prt 10 s0 p0)) sq fl), cI K v1 10 (f_goi nx nx (Int32.toNatClampNeg (f_find use src prt 10 s0 p0)) sq fl), cI K v2 10 (f_goi nx dt (Int32.toNatClampNeg (f_find use src prt 10 s0 p0)) sq fl)]) rfl 0 5 rfl rfl rfl (cw_Srv_58 hF.2.2.2.2.1 rfl rfl ⟨by decide, by decide⟩) rfl rfl (Nat.le_of_ble_eq_true rfl) d_Srv_receive_76 ⟨Nat.zero_le _, Nat.zero_le _⟩ ?_
        exact zx_iret (pc := 79) hF hr hlk (by first | with_reducible rfl | (simp only [f_rec, f_rnew, f_relu, f_reln, f_put, if_neg h8, if_neg h40, if_neg h63]; done) | (simp only [f_rec, f_rnew, f_relu, f_reln, f_put, h8, h40, h63, ↓reduceIte]; done) | simp [f_rec, f_rnew, f_relu, f_reln, f_put, h8, h40, h63]) (by first | with_reducible rfl | (simp only [f_rec, f_rnew, f_relu, f_reln, f_put, if_neg h8, if_neg h40, if_neg h63]; done) | (simp only [f_rec, f_rnew, f_relu, f_reln, f_put, h8, h40, h63, ↓reduceIte]; done) | simp [f_rec, f_rnew, f_relu, f_reln, f_put, h8, h40, h63]) d_Srv_receive_79
      · refine zx_iconst (pc := 66) hF d_Srv_receive_66 k_i4 ?_
        refine zx_goto (pc := 67) hF d_Srv_receive_67 (tgt := 79) rfl ?_
        exact zx_iret (pc := 79) hF hr hlk (by first | with_reducible rfl | (simp only [f_rec, f_rnew, f_relu, f_reln, f_put, if_neg h8, if_neg h40, if_pos h63]; done) | (simp only [f_rec, f_rnew, f_relu, f_reln, f_put, h8, h40, h63, ↓reduceIte]; done) | simp [f_rec, f_rnew, f_relu, f_reln, f_put, h8, h40, h63]) (by first | with_reducible rfl | (simp only [f_rec, f_rnew, f_relu, f_reln, f_put, if_neg h8, if_neg h40, if_pos h63]; done) | (simp only [f_rec, f_rnew, f_relu, f_reln, f_put, h8, h40, h63, ↓reduceIte]; done) | simp [f_rec, f_rnew, f_relu, f_reln, f_put, h8, h40, h63]) d_Srv_receive_79
    · refine zx_iload (pc := 43) hF d_Srv_receive_43 0 rfl ?_
      refine zx_iconst (pc := 45) hF d_Srv_receive_45 k_im1 ?_
      refine zx_icmp_eq (pc := 46) hF d_Srv_receive_46 (tgt := 58) rfl (fun h46 => ?_) (fun h46 => ?_)
      · refine zx_iconst (pc := 58) hF d_Srv_receive_58 k_i0 ?_
        exact zx_iret (pc := 59) hF hr hlk (by first | with_reducible rfl | (simp only [f_rec, f_rnew, f_relu, f_reln, f_put, if_neg h8, if_pos h40, if_pos h46]; done) | (simp only [f_rec, f_rnew, f_relu, f_reln, f_put, h8, h40, h46, ↓reduceIte]; done) | simp [f_rec, f_rnew, f_relu, f_reln, f_put, h8, h40, h46]) (by first | with_reducible rfl | (simp only [f_rec, f_rnew, f_relu, f_reln, f_put, if_neg h8, if_pos h40, if_pos h46]; done) | (simp only [f_rec, f_rnew, f_relu, f_reln, f_put, h8, h40, h46, ↓reduceIte]; done) | simp [f_rec, f_rnew, f_relu, f_reln, f_put, h8, h40, h46]) d_Srv_receive_59
      · refine zx_aload_n (pc := 49) hF d_Srv_receive_49 rfl 1 rfl ?_
        refine zg_Srv_16 (pc := 50) hF 0 rfl rfl d_Srv_receive_50 ?_
        refine zx_iload (pc := 53) hF d_Srv_receive_53 0 rfl ?_
        refine zx_topi (nI (Int32.toNatClampNeg (f_find use src prt 10 s0 p0))) ((f_find_cl (by omega) h46).1) ?_
        refine zx_Vv (pc := 55) hF (As := [.int (nI (Int32.toNatClampNeg (f_find use src prt 10 s0 p0)))]) (rest := []) (fun sz => M_Slo_release l D K M a0 a1 a2 a3 10 src prt use cnt (Int32.toNatClampNeg (f_find use src prt 10 s0 p0)) (f_find_cl (by omega) h46).2 (by first | assumption | omega) sz) [1, 2, 3, 4] rfl (by decide) (as := [a0, a1, a2, a3]) rfl rfl (ws' := [cO v0 5 [.ref a0, .ref t0, .int on, .int 0, .ref v1, .ref v2], cO a0 6 [.ref a1, .ref a2, .ref a3, .int (f_rn use cnt (Int32.toNatClampNeg (f_find use src prt 10 s0 p0)))], cI K a1 10 src, cI K a2 10 prt, cZ K a3 10 (f_ru use (Int32.toNatClampNeg (f_find use src prt 10 s0 p0))), cI K v1 10 nx, cI K v2 10 dt]) rfl 0 6 rfl rfl rfl (cw_Srv_55 hF.2.2.2.2.1 rfl rfl ⟨by decide, by decide⟩) rfl rfl (Nat.le_of_ble_eq_true rfl) d_Srv_receive_55 ⟨Nat.zero_le _, Nat.zero_le _⟩ ?_
        refine zx_iconst (pc := 58) hF d_Srv_receive_58 k_i0 ?_
        exact zx_iret (pc := 59) hF hr hlk (by first | with_reducible rfl | (simp only [f_rec, f_rnew, f_relu, f_reln, f_put, if_neg h8, if_pos h40, if_neg h46]; done) | (simp only [f_rec, f_rnew, f_relu, f_reln, f_put, h8, h40, h46, ↓reduceIte]; done) | simp [f_rec, f_rnew, f_relu, f_reln, f_put, h8, h40, h46]) (by first | with_reducible rfl | (simp only [f_rec, f_rnew, f_relu, f_reln, f_put, if_neg h8, if_pos h40, if_neg h46]; done) | (simp only [f_rec, f_rnew, f_relu, f_reln, f_put, h8, h40, h46, ↓reduceIte]; done) | simp [f_rec, f_rnew, f_relu, f_reln, f_put, h8, h40, h46]) d_Srv_receive_59
  · refine zx_aload_n (pc := 11) hF d_Srv_receive_11 rfl 0 rfl ?_
    refine zx_aload_n (pc := 12) hF d_Srv_receive_12 rfl 0 rfl ?_
    refine zg_Srv_16 (pc := 13) hF 0 rfl rfl d_Srv_receive_13 ?_
    refine zx_iload_n (pc := 16) hF d_Srv_receive_16 rfl 1 rfl ?_
    refine zx_iload_n (pc := 17) hF d_Srv_receive_17 rfl 2 rfl ?_
    refine zx_Vi (pc := 18) hF (As := [.int s0, .int p0]) (rest := [.ref v0]) (fun sz => M_Slo_findOrTake l D K M a0 a1 a2 a3 10 src prt use cnt s0 p0 (by first | assumption | omega) sz) [1, 2, 3, 4] rfl (by decide) (as := [a0, a1, a2, a3]) rfl rfl (ws' := [cO v0 5 [.ref a0, .ref t0, .int on, .int 0, .ref v1, .ref v2], cO a0 6 [.ref a1, .ref a2, .ref a3, .int (f_inc cnt (f_new use src prt 10 s0 p0))], cI K a1 10 (f_put src (f_new use src prt 10 s0 p0) s0), cI K a2 10 (f_put prt (f_new use src prt 10 s0 p0) p0), cZ K a3 10 (f_put use (f_new use src prt 10 s0 p0) 1), cI K v1 10 nx, cI K v2 10 dt]) rfl 0 6 rfl rfl rfl (cw_Srv_45 hF.2.2.2.2.1 rfl rfl ⟨by decide, by decide⟩) rfl rfl (Nat.le_of_ble_eq_true rfl) d_Srv_receive_18 ⟨Nat.zero_le _, Nat.zero_le _⟩ ?_
    refine zx_iload_n (pc := 21) hF d_Srv_receive_21 rfl 3 rfl ?_
    refine zx_Vi (pc := 22) hF (As := [.int (f_fot use src prt 10 s0 p0), .int sq]) (rest := []) (fun sz => M_Srv_greet l D K M v0 v1 v2 t0 a0 a1 a2 a3 (f_put src (f_new use src prt 10 s0 p0) s0) (f_put prt (f_new use src prt 10 s0 p0) p0) (f_put use (f_new use src prt 10 s0 p0) 1) (f_inc cnt (f_new use src prt 10 s0 p0)) on 0 nx dt (f_fot use src prt 10 s0 p0) sq (fun h => by have h9 := f_fot_cl (by omega) h; rw [h9.1]; exact vp_in_nI h9.2 (by omega)) sz) [0, 1, 2, 3, 4, 5, 6] rfl (by decide) (as := [v0, a0, a1, a2, a3, v1, v2]) rfl rfl (ws' := [cO v0 5 [.ref a0, .ref t0, .int on, .int 0, .ref v1, .ref v2], cO a0 6 [.ref a1, .ref a2, .ref a3, .int (f_inc cnt (f_new use src prt 10 s0 p0))], cI K a1 10 (f_put src (f_new use src prt 10 s0 p0) s0), cI K a2 10 (f_put prt (f_new use src prt 10 s0 p0) p0), cZ K a3 10 (f_put use (f_new use src prt 10 s0 p0) 1), cI K v1 10 (f_put nx (f_fot use src prt 10 s0 p0) (sq + 1)), cI K v2 10 (f_put dt (f_fot use src prt 10 s0 p0) 0)]) rfl 0 5 rfl rfl rfl (cw_Srv_49 hF.2.2.2.2.1 rfl rfl ⟨by decide, by decide⟩) rfl rfl (Nat.le_of_ble_eq_true rfl) d_Srv_receive_22 ⟨Nat.zero_le _, Nat.zero_le _⟩ ?_
    exact zx_iret (pc := 25) hF hr hlk (by first | with_reducible rfl | (simp only [f_rec, f_rnew, f_relu, f_reln, f_put, if_pos h8]; done) | (simp only [f_rec, f_rnew, f_relu, f_reln, f_put, h8, ↓reduceIte]; done) | simp [f_rec, f_rnew, f_relu, f_reln, f_put, h8]) (by first | with_reducible rfl | (simp only [f_rec, f_rnew, f_relu, f_reln, f_put, if_pos h8]; done) | (simp only [f_rec, f_rnew, f_relu, f_reln, f_put, h8, ↓reduceIte]; done) | simp [f_rec, f_rnew, f_relu, f_reln, f_put, h8]) d_Srv_receive_25
