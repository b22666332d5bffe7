set_option maxRecDepth 20000 in
theorem M_Mod_load_n (l : Launch) (D : va_G) (K : Nat → ClassId) (M : List (ClassId × FieldType)) (m0 : Nat) (bN : Nat) (sN0 : Nat) (pN : Nat) (k0 : Int64) (k1 : Int64) (now : Int32) (x_wd : Nat) (x_beg : Nat) (x_std : Nat) (x_dea : Nat) (x_frm : Nat) (x_alv : Nat) (x_stm : Nat) (x_mov : Nat) (x_dwn : Nat) (x_ctd : Nat) (x_cutm : Nat) (x_pha : Nat) (x_usd : Nat) (x_gol : Nat) (x_esr : Nat) (x_epo : Nat) (x_offm : Nat) (x_ast : Nat) (x_opn : Nat) (x_ssr : Nat) (x_spo : Nat) (x_awa : Nat) (x_dat : Nat) (kpt : Int32) (x_hd : Nat) (by0 : Int32) (to0 : Int32) (rep : Int32) (had : Int32) (ost : Int32) (bst : Int32) (x_inr : Nat) (pha : Nat → Int32) (opn : Nat → Int32) (b : Int32) (q : Int32) (hB : bN ≤ 4) (hS : 0 < sN0 ∧ sN0 ≤ 8) (hb : g_is b bN = 0) (hq : g_is q sN0 = 0) (sz : Nat) : zM l y_Mod_load (zT y_Mod_load b_Mod_load 5 (some .int)) (zR 1 21) 0 0 D K M [.ref m0, .int b, .int q] [cO m0 11 [.int (nI bN), .int (nI sN0), .int (nI pN), .long k0, .long k1, .int now, .ref x_wd, .ref x_beg, .ref x_std, .ref x_dea, .ref x_frm, .ref x_alv, .ref x_stm, .ref x_mov, .ref x_dwn, .ref x_ctd, .ref x_cutm, .ref x_pha, .ref x_usd, .ref x_gol, .ref x_esr, .ref x_epo, .ref x_offm, .ref x_ast, .ref x_opn, .ref x_ssr, .ref x_spo, .ref x_awa, .ref x_dat, .int kpt, .ref x_hd, .int by0, .int to0, .int rep, .int had, .int ost, .int bst, .ref x_inr], cI K x_pha 32 pha, cZ K x_opn 80 opn] sz (zQi D K M 0 [cO m0 11 [.int (nI bN), .int (nI sN0), .int (nI pN), .long k0, .long k1, .int now, .ref x_wd, .ref x_beg, .ref x_std, .ref x_dea, .ref x_frm, .ref x_alv, .ref x_stm, .ref x_mov, .ref x_dwn, .ref x_ctd, .ref x_cutm, .ref x_pha, .ref x_usd, .ref x_gol, .ref x_esr, .ref x_epo, .ref x_offm, .ref x_ast, .ref x_opn, .ref x_ssr, .ref x_spo, .ref x_awa, .ref x_dat, .int kpt, .ref x_hd, .int by0, .int to0, .int rep, .int had, .int ost, .int bst, .ref x_inr], cI K x_pha 32 pha, cZ K x_opn 80 opn]) := by
  refine zx_head (by decide) (Nat.le_of_ble_eq_true rfl) ?_
  intro _ _ _ _ _ _ _ _ _ hF hr hlk hnm
  refine zx_iconst (pc := 0) hF d_Mod_load_0 k_i0 ?_
  refine zx_istore_n (pc := 1) hF (lv' := [(3, .int 0), (0, .ref m0), (1, .int b), (2, .int q)]) d_Mod_load_1 rfl (by decide) rfl ?_
  refine zx_iconst (pc := 2) hF d_Mod_load_2 k_i0 ?_
  refine zx_istore (pc := 3) hF (lv' := [(4, .int 0), (3, .int 0), (0, .ref m0), (1, .int b), (2, .int q)]) d_Mod_load_3 (by decide) rfl ?_
  refine zx_iload (pc := 5) hF d_Mod_load_5 0 rfl ?_
  refine zx_bipush (pc := 7) hF d_Mod_load_7 k_b8 ?_
  refine zx_icmp_ge (pc := 9) hF d_Mod_load_9 (tgt := 49) rfl (fun h9 => ?_) (fun h9 => ?_)
  · exact absurd h9 (by decide)
  · refine zx_aload_n (pc := 12) hF d_Mod_load_12 rfl 2 rfl ?_
    refine zx_iload_n (pc := 13) hF d_Mod_load_13 rfl 3 rfl ?_
    refine zx_Vi (pc := 14) hF (As := [.int b]) (rest := []) (fun sz => M_Mod_isBalancer l D K M m0 bN sN0 pN k0 k1 now x_wd x_beg x_std x_dea x_frm x_alv x_stm x_mov x_dwn x_ctd x_cutm x_pha x_usd x_gol x_esr x_epo x_offm x_ast x_opn x_ssr x_spo x_awa x_dat kpt x_hd by0 to0 rep had ost bst x_inr b  sz) [0] rfl (by decide) (as := [m0]) rfl rfl (ws' := [cO m0 11 [.int (nI bN), .int (nI sN0), .int (nI pN), .long k0, .long k1, .int now, .ref x_wd, .ref x_beg, .ref x_std, .ref x_dea, .ref x_frm, .ref x_alv, .ref x_stm, .ref x_mov, .ref x_dwn, .ref x_ctd, .ref x_cutm, .ref x_pha, .ref x_usd, .ref x_gol, .ref x_esr, .ref x_epo, .ref x_offm, .ref x_ast, .ref x_opn, .ref x_ssr, .ref x_spo, .ref x_awa, .ref x_dat, .int kpt, .ref x_hd, .int by0, .int to0, .int rep, .int had, .int ost, .int bst, .ref x_inr], cI K x_pha 32 pha, cZ K x_opn 80 opn]) rfl 0 11 rfl rfl rfl (cw_Mod_186 hF.2.2.2.2.1 rfl rfl ⟨by decide, by decide⟩) rfl rfl (Nat.le_of_ble_eq_true rfl) d_Mod_load_14 ⟨Nat.zero_le _, Nat.zero_le _⟩ ?_
    refine zx_topi 0 (hb) ?_
    refine zx_if_eq (pc := 17) hF d_Mod_load_17 (tgt := 49) rfl (fun h17 => ?_) (fun h17 => ?_)
    · refine zx_iconst (pc := 49) hF d_Mod_load_49 k_i0 ?_
      refine zx_istore (pc := 50) hF (lv' := [(4, .int 0), (3, .int 0), (0, .ref m0), (1, .int b), (2, .int q)]) d_Mod_load_50 (by decide) rfl ?_
      refine zx_iload (pc := 52) hF d_Mod_load_52 0 rfl ?_
      refine zx_bipush (pc := 54) hF d_Mod_load_54 k_b10 ?_
      refine zx_icmp_ge (pc := 56) hF d_Mod_load_56 (tgt := 97) rfl (fun h56 => ?_) (fun h56 => ?_)
      · exact absurd h56 (by decide)
      · refine zx_aload_n (pc := 59) hF d_Mod_load_59 rfl 2 rfl ?_
        refine zx_iload_n (pc := 60) hF d_Mod_load_60 rfl 4 rfl ?_
        refine zx_Vi (pc := 61) hF (As := [.int q]) (rest := []) (fun sz => M_Mod_isServer l D K M m0 bN sN0 pN k0 k1 now x_wd x_beg x_std x_dea x_frm x_alv x_stm x_mov x_dwn x_ctd x_cutm x_pha x_usd x_gol x_esr x_epo x_offm x_ast x_opn x_ssr x_spo x_awa x_dat kpt x_hd by0 to0 rep had ost bst x_inr q  sz) [0] rfl (by decide) (as := [m0]) rfl rfl (ws' := [cO m0 11 [.int (nI bN), .int (nI sN0), .int (nI pN), .long k0, .long k1, .int now, .ref x_wd, .ref x_beg, .ref x_std, .ref x_dea, .ref x_frm, .ref x_alv, .ref x_stm, .ref x_mov, .ref x_dwn, .ref x_ctd, .ref x_cutm, .ref x_pha, .ref x_usd, .ref x_gol, .ref x_esr, .ref x_epo, .ref x_offm, .ref x_ast, .ref x_opn, .ref x_ssr, .ref x_spo, .ref x_awa, .ref x_dat, .int kpt, .ref x_hd, .int by0, .int to0, .int rep, .int had, .int ost, .int bst, .ref x_inr], cI K x_pha 32 pha, cZ K x_opn 80 opn]) rfl 0 11 rfl rfl rfl (cw_Mod_192 hF.2.2.2.2.1 rfl rfl ⟨by decide, by decide⟩) rfl rfl (Nat.le_of_ble_eq_true rfl) d_Mod_load_61 ⟨Nat.zero_le _, Nat.zero_le _⟩ ?_
        refine zx_topi 0 (hq) ?_
        refine zx_if_eq (pc := 64) hF d_Mod_load_64 (tgt := 97) rfl (fun h64 => ?_) (fun h64 => ?_)
        · refine zx_iload_n (pc := 97) hF d_Mod_load_97 rfl 1 rfl ?_
          exact zx_iret (pc := 98) hF hr hlk (by first | rfl | (simp only []; done) | (simp only [↓reduceIte]; done) | simp []) (by first | rfl | (simp only []; done) | (simp only [↓reduceIte]; done) | simp []) d_Mod_load_98
        · exact absurd h64 (by decide)
    · exact absurd h17 (by decide)
set_option maxRecDepth 20000 in
theorem M_Mod_wire (l : Launch) (D : va_G) (K : Nat → ClassId) (M : List (ClassId × FieldType)) (m0 : Nat) (bN : Nat) (sN0 : Nat) (pN : Nat) (k0 : Int64) (k1 : Int64) (now : Int32) (x_wd : Nat) (x_beg : Nat) (x_std : Nat) (x_dea : Nat) (x_frm : Nat) (x_alv : Nat) (x_stm : Nat) (x_mov : Nat) (x_dwn : Nat) (x_ctd : Nat) (x_cutm : Nat) (x_pha : Nat) (x_usd : Nat) (x_gol : Nat) (x_esr : Nat) (x_epo : Nat) (x_offm : Nat) (x_ast : Nat) (x_opn : Nat) (x_ssr : Nat) (x_spo : Nat) (x_awa : Nat) (x_dat : Nat) (kpt : Int32) (x_hd : Nat) (by0 : Int32) (to0 : Int32) (rep : Int32) (had : Int32) (ost : Int32) (bst : Int32) (x_inr : Nat) (inr : Nat → Int32) (t : Int32) (hy : ¬ by0 < 0) (ht : ¬ t < 0 ∧ t ≤ 15) (sz : Nat) : zM l y_Mod_wire (zT y_Mod_wire b_Mod_wire 3 (some .int)) (zR 3 76) 0 0 D K M [.ref m0, .int t] [cO m0 11 [.int (nI bN), .int (nI sN0), .int (nI pN), .long k0, .long k1, .int now, .ref x_wd, .ref x_beg, .ref x_std, .ref x_dea, .ref x_frm, .ref x_alv, .ref x_stm, .ref x_mov, .ref x_dwn, .ref x_ctd, .ref x_cutm, .ref x_pha, .ref x_usd, .ref x_gol, .ref x_esr, .ref x_epo, .ref x_offm, .ref x_ast, .ref x_opn, .ref x_ssr, .ref x_spo, .ref x_awa, .ref x_dat, .int kpt, .ref x_hd, .int by0, .int to0, .int rep, .int had, .int ost, .int bst, .ref x_inr], cI K x_inr 5 inr] sz (zQi D K M (g_wir t by0 to0 rep ost bst inr) [cO m0 11 [.int (nI bN), .int (nI sN0), .int (nI pN), .long k0, .long k1, .int now, .ref x_wd, .ref x_beg, .ref x_std, .ref x_dea, .ref x_frm, .ref x_alv, .ref x_stm, .ref x_mov, .ref x_dwn, .ref x_ctd, .ref x_cutm, .ref x_pha, .ref x_usd, .ref x_gol, .ref x_esr, .ref x_epo, .ref x_offm, .ref x_ast, .ref x_opn, .ref x_ssr, .ref x_spo, .ref x_awa, .ref x_dat, .int kpt, .ref x_hd, .int by0, .int to0, .int rep, .int had, .int ost, .int bst, .ref x_inr], cI K x_inr 5 inr]) := by
  refine zx_head (by decide) (Nat.le_of_ble_eq_true rfl) ?_
  intro _ _ _ _ _ _ _ _ _ hF hr hlk hnm
  refine zx_aload_n (pc := 0) hF d_Mod_wire_0 rfl 0 rfl ?_
  refine zg_Mod_84 (pc := 1) hF 0 rfl rfl d_Mod_wire_1 ?_
  refine zx_if_lt (pc := 4) hF d_Mod_wire_4 (tgt := 17) rfl (fun h4 => ?_) (fun h4 => ?_)
  · exact absurd h4 hy
  · refine zx_iload_n (pc := 7) hF d_Mod_wire_7 rfl 1 rfl ?_
    refine zx_if_lt (pc := 8) hF d_Mod_wire_8 (tgt := 17) rfl (fun h8 => ?_) (fun h8 => ?_)
    · exact absurd h8 ht.1
    · refine zx_iload_n (pc := 11) hF d_Mod_wire_11 rfl 1 rfl ?_
      refine zx_bipush (pc := 12) hF d_Mod_wire_12 k_b15 ?_
      refine zx_icmp_le (pc := 14) hF d_Mod_wire_14 (tgt := 19) rfl (fun h14 => ?_) (fun h14 => ?_)
      · refine zx_iload_n (pc := 19) hF d_Mod_wire_19 rfl 1 rfl ?_
        refine zx_iconst (pc := 20) hF d_Mod_wire_20 k_i5 ?_
        refine zx_icmp_ne (pc := 21) hF d_Mod_wire_21 (tgt := 28) rfl (fun h21 => ?_) (fun h21 => ?_)
        · refine zx_iload_n (pc := 28) hF d_Mod_wire_28 rfl 1 rfl ?_
          refine zx_iconst (pc := 29) hF d_Mod_wire_29 k_i5 ?_
          refine zx_icmp_le (pc := 30) hF d_Mod_wire_30 (tgt := 49) rfl (fun h30 => ?_) (fun h30 => ?_)
          · refine zx_iload_n (pc := 49) hF d_Mod_wire_49 rfl 1 rfl ?_
            refine zx_bipush (pc := 50) hF d_Mod_wire_50 k_b10 ?_
            refine zx_icmp_le (pc := 52) hF d_Mod_wire_52 (tgt := 91) rfl (fun h52 => ?_) (fun h52 => ?_)
            · refine zx_ldc (pc := 91) hF wk_Mod_252 d_Mod_wire_91 ?_
              refine zx_aload_n (pc := 93) hF d_Mod_wire_93 rfl 0 rfl ?_
              refine zg_Mod_94 (pc := 94) hF 0 rfl rfl d_Mod_wire_94 ?_
              refine zx_iconst (pc := 97) hF d_Mod_wire_97 k_i0 ?_
              refine zx_ialdn (pc := 98) hF (i := 0) 1 rfl (by omega) (by omega) d_Mod_wire_98 ?_
              refine zx_ldc (pc := 99) hF wk_Mod_138 d_Mod_wire_99 ?_
              refine zx_iand (pc := 101) hF d_Mod_wire_101 ?_
              refine zx_iadd (pc := 102) hF d_Mod_wire_102 ?_
              refine zx_istore_n (pc := 103) hF (lv' := [(2, .int (1157627928 + ((inr 0) &&& 65535))), (0, .ref m0), (1, .int t)]) d_Mod_wire_103 rfl (by decide) rfl ?_
              refine zx_aload_n (pc := 104) hF d_Mod_wire_104 rfl 1 rfl ?_
              refine zx_iload_n (pc := 105) hF d_Mod_wire_105 rfl 2 rfl ?_
              refine zx_iload_n (pc := 106) hF d_Mod_wire_106 rfl 0 rfl ?_
              refine zx_aload_n (pc := 107) hF d_Mod_wire_107 rfl 1 rfl ?_
              refine zg_Mod_223 (pc := 108) hF 0 rfl rfl d_Mod_wire_108 ?_
              refine zx_ldc (pc := 111) hF wk_Mod_253 d_Mod_wire_111 ?_
              refine zx_ldc (pc := 113) hF wk_Mod_254 d_Mod_wire_113 ?_
              refine zx_aload_n (pc := 115) hF d_Mod_wire_115 rfl 1 rfl ?_
              refine zg_Mod_84 (pc := 116) hF 0 rfl rfl d_Mod_wire_116 ?_
              refine zx_iadd (pc := 119) hF d_Mod_wire_119 ?_
              refine zx_ldc (pc := 120) hF wk_Mod_255 d_Mod_wire_120 ?_
              refine zx_aload_n (pc := 122) hF d_Mod_wire_122 rfl 1 rfl ?_
              refine zg_Mod_220 (pc := 123) hF 0 rfl rfl d_Mod_wire_123 ?_
              refine zx_iadd (pc := 126) hF d_Mod_wire_126 ?_
              refine zx_Vi (pc := 127) hF (As := [.int t, .int (1157627928 + ((inr 0) &&& 65535)), .int ost, .int 1076822016, .int (167772416 + by0), .int (167772672 + to0)]) (rest := []) (fun sz => M_Mod_five l D K M m0 bN sN0 pN k0 k1 now x_wd x_beg x_std x_dea x_frm x_alv x_stm x_mov x_dwn x_ctd x_cutm x_pha x_usd x_gol x_esr x_epo x_offm x_ast x_opn x_ssr x_spo x_awa x_dat kpt x_hd by0 to0 rep had ost bst x_inr t (1157627928 + ((inr 0) &&& 65535)) ost 1076822016 (167772416 + by0) (167772672 + to0)  sz) [0] rfl (by decide) (as := [m0]) rfl rfl (ws' := [cO m0 11 [.int (nI bN), .int (nI sN0), .int (nI pN), .long k0, .long k1, .int now, .ref x_wd, .ref x_beg, .ref x_std, .ref x_dea, .ref x_frm, .ref x_alv, .ref x_stm, .ref x_mov, .ref x_dwn, .ref x_ctd, .ref x_cutm, .ref x_pha, .ref x_usd, .ref x_gol, .ref x_esr, .ref x_epo, .ref x_offm, .ref x_ast, .ref x_opn, .ref x_ssr, .ref x_spo, .ref x_awa, .ref x_dat, .int kpt, .ref x_hd, .int by0, .int to0, .int rep, .int had, .int ost, .int bst, .ref x_inr], cI K x_inr 5 inr]) rfl 0 11 rfl rfl rfl (cw_Mod_248 hF.2.2.2.2.1 rfl rfl ⟨by decide, by decide⟩) rfl rfl (Nat.le_of_ble_eq_true rfl) d_Mod_wire_127 ⟨Nat.zero_le _, Nat.zero_le _⟩ ?_
              exact zx_iret (pc := 130) hF hr hlk (by first | with_reducible rfl | (simp only [g_wir, if_neg h4, if_neg h8, if_pos h14, if_neg h21, if_pos h30, if_pos h52]; done) | (simp only [g_wir, h4, h8, h14, h21, h30, h52, ↓reduceIte]; done) | simp [g_wir, h4, h8, h14, h21, h30, h52]) (by first | with_reducible rfl | (simp only [g_wir, if_neg h4, if_neg h8, if_pos h14, if_neg h21, if_pos h30, if_pos h52]; done) | (simp only [g_wir, h4, h8, h14, h21, h30, h52, ↓reduceIte]; done) | simp [g_wir, h4, h8, h14, h21, h30, h52]) d_Mod_wire_130
            · refine zx_aload_n (pc := 55) hF d_Mod_wire_55 rfl 0 rfl ?_
              refine zg_Mod_88 (pc := 56) hF 0 rfl rfl d_Mod_wire_56 ?_
              refine zx_if_ne (pc := 59) hF d_Mod_wire_59 (tgt := 66) rfl (fun h59 => ?_) (fun h59 => ?_)
              · refine zx_aload_n (pc := 66) hF d_Mod_wire_66 rfl 0 rfl ?_
                refine zx_iload_n (pc := 67) hF d_Mod_wire_67 rfl 1 rfl ?_
                refine zx_bipush (pc := 68) hF d_Mod_wire_68 k_b11 ?_
                refine zx_isub (pc := 70) hF d_Mod_wire_70 ?_
                refine zx_ldc (pc := 71) hF wk_Mod_246 d_Mod_wire_71 ?_
                refine zx_aload_n (pc := 73) hF d_Mod_wire_73 rfl 0 rfl ?_
                refine zg_Mod_230 (pc := 74) hF 0 rfl rfl d_Mod_wire_74 ?_
                refine zx_ldc (pc := 77) hF wk_Mod_247 d_Mod_wire_77 ?_
                refine zx_ldc (pc := 79) hF wk_Mod_147 d_Mod_wire_79 ?_
                refine zx_aload_n (pc := 81) hF d_Mod_wire_81 rfl 0 rfl ?_
                refine zg_Mod_94 (pc := 82) hF 0 rfl rfl d_Mod_wire_82 ?_
                refine zx_iconst (pc := 85) hF d_Mod_wire_85 k_i3 ?_
                refine zx_ialdn (pc := 86) hF (i := 3) 1 rfl (by omega) (by omega) d_Mod_wire_86 ?_
                refine zx_Vi (pc := 87) hF (As := [.int (t - 11), .int 1157627944, .int bst, .int 1074135040, .int 167772161, .int (inr 3)]) (rest := []) (fun sz => M_Mod_five l D K M m0 bN sN0 pN k0 k1 now x_wd x_beg x_std x_dea x_frm x_alv x_stm x_mov x_dwn x_ctd x_cutm x_pha x_usd x_gol x_esr x_epo x_offm x_ast x_opn x_ssr x_spo x_awa x_dat kpt x_hd by0 to0 rep had ost bst x_inr (t - 11) 1157627944 bst 1074135040 167772161 (inr 3)  sz) [0] rfl (by decide) (as := [m0]) rfl rfl (ws' := [cO m0 11 [.int (nI bN), .int (nI sN0), .int (nI pN), .long k0, .long k1, .int now, .ref x_wd, .ref x_beg, .ref x_std, .ref x_dea, .ref x_frm, .ref x_alv, .ref x_stm, .ref x_mov, .ref x_dwn, .ref x_ctd, .ref x_cutm, .ref x_pha, .ref x_usd, .ref x_gol, .ref x_esr, .ref x_epo, .ref x_offm, .ref x_ast, .ref x_opn, .ref x_ssr, .ref x_spo, .ref x_awa, .ref x_dat, .int kpt, .ref x_hd, .int by0, .int to0, .int rep, .int had, .int ost, .int bst, .ref x_inr], cI K x_inr 5 inr]) rfl 0 11 rfl rfl rfl (cw_Mod_248 hF.2.2.2.2.1 rfl rfl ⟨by decide, by decide⟩) rfl rfl (Nat.le_of_ble_eq_true rfl) d_Mod_wire_87 ⟨Nat.zero_le _, Nat.zero_le _⟩ ?_
                exact zx_iret (pc := 90) hF hr hlk (by first | with_reducible rfl | (simp only [g_wir, if_neg h4, if_neg h8, if_pos h14, if_neg h21, if_pos h30, if_neg h52, if_neg h59]; done) | (simp only [g_wir, h4, h8, h14, h21, h30, h52, h59, ↓reduceIte]; done) | simp [g_wir, h4, h8, h14, h21, h30, h52, h59]) (by first | with_reducible rfl | (simp only [g_wir, if_neg h4, if_neg h8, if_pos h14, if_neg h21, if_pos h30, if_neg h52, if_neg h59]; done) | (simp only [g_wir, h4, h8, h14, h21, h30, h52, h59, ↓reduceIte]; done) | simp [g_wir, h4, h8, h14, h21, h30, h52, h59]) d_Mod_wire_90
              · refine zx_iconst (pc := 62) hF d_Mod_wire_62 k_i0 ?_
                refine zx_goto (pc := 63) hF d_Mod_wire_63 (tgt := 90) rfl ?_
                exact zx_iret (pc := 90) hF hr hlk (by first | with_reducible rfl | (simp only [g_wir, if_neg h4, if_neg h8, if_pos h14, if_neg h21, if_pos h30, if_neg h52, if_pos h59]; done) | (simp only [g_wir, h4, h8, h14, h21, h30, h52, h59, ↓reduceIte]; done) | simp [g_wir, h4, h8, h14, h21, h30, h52, h59]) (by first | with_reducible rfl | (simp only [g_wir, if_neg h4, if_neg h8, if_pos h14, if_neg h21, if_pos h30, if_neg h52, if_pos h59]; done) | (simp only [g_wir, h4, h8, h14, h21, h30, h52, h59, ↓reduceIte]; done) | simp [g_wir, h4, h8, h14, h21, h30, h52, h59]) d_Mod_wire_90
          · refine zx_iload_n (pc := 33) hF d_Mod_wire_33 rfl 1 rfl ?_
            refine zx_bipush (pc := 34) hF d_Mod_wire_34 k_b11 ?_
            refine zx_icmp_ge (pc := 36) hF d_Mod_wire_36 (tgt := 49) rfl (fun h36 => ?_) (fun h36 => ?_)
            · refine zx_iload_n (pc := 49) hF d_Mod_wire_49 rfl 1 rfl ?_
              refine zx_bipush (pc := 50) hF d_Mod_wire_50 k_b10 ?_
              refine zx_icmp_le (pc := 52) hF d_Mod_wire_52 (tgt := 91) rfl (fun h52 => ?_) (fun h52 => ?_)
              · refine zx_ldc (pc := 91) hF wk_Mod_252 d_Mod_wire_91 ?_
                refine zx_aload_n (pc := 93) hF d_Mod_wire_93 rfl 0 rfl ?_
                refine zg_Mod_94 (pc := 94) hF 0 rfl rfl d_Mod_wire_94 ?_
                refine zx_iconst (pc := 97) hF d_Mod_wire_97 k_i0 ?_
                refine zx_ialdn (pc := 98) hF (i := 0) 1 rfl (by omega) (by omega) d_Mod_wire_98 ?_
                refine zx_ldc (pc := 99) hF wk_Mod_138 d_Mod_wire_99 ?_
                refine zx_iand (pc := 101) hF d_Mod_wire_101 ?_
                refine zx_iadd (pc := 102) hF d_Mod_wire_102 ?_
                refine zx_istore_n (pc := 103) hF (lv' := [(2, .int (1157627928 + ((inr 0) &&& 65535))), (0, .ref m0), (1, .int t)]) d_Mod_wire_103 rfl (by decide) rfl ?_
                refine zx_aload_n (pc := 104) hF d_Mod_wire_104 rfl 1 rfl ?_
                refine zx_iload_n (pc := 105) hF d_Mod_wire_105 rfl 2 rfl ?_
                refine zx_iload_n (pc := 106) hF d_Mod_wire_106 rfl 0 rfl ?_
                refine zx_aload_n (pc := 107) hF d_Mod_wire_107 rfl 1 rfl ?_
                refine zg_Mod_223 (pc := 108) hF 0 rfl rfl d_Mod_wire_108 ?_
                refine zx_ldc (pc := 111) hF wk_Mod_253 d_Mod_wire_111 ?_
                refine zx_ldc (pc := 113) hF wk_Mod_254 d_Mod_wire_113 ?_
                refine zx_aload_n (pc := 115) hF d_Mod_wire_115 rfl 1 rfl ?_
                refine zg_Mod_84 (pc := 116) hF 0 rfl rfl d_Mod_wire_116 ?_
                refine zx_iadd (pc := 119) hF d_Mod_wire_119 ?_
                refine zx_ldc (pc := 120) hF wk_Mod_255 d_Mod_wire_120 ?_
                refine zx_aload_n (pc := 122) hF d_Mod_wire_122 rfl 1 rfl ?_
                refine zg_Mod_220 (pc := 123) hF 0 rfl rfl d_Mod_wire_123 ?_
                refine zx_iadd (pc := 126) hF d_Mod_wire_126 ?_
                refine zx_Vi (pc := 127) hF (As := [.int t, .int (1157627928 + ((inr 0) &&& 65535)), .int ost, .int 1076822016, .int (167772416 + by0), .int (167772672 + to0)]) (rest := []) (fun sz => M_Mod_five l D K M m0 bN sN0 pN k0 k1 now x_wd x_beg x_std x_dea x_frm x_alv x_stm x_mov x_dwn x_ctd x_cutm x_pha x_usd x_gol x_esr x_epo x_offm x_ast x_opn x_ssr x_spo x_awa x_dat kpt x_hd by0 to0 rep had ost bst x_inr t (1157627928 + ((inr 0) &&& 65535)) ost 1076822016 (167772416 + by0) (167772672 + to0)  sz) [0] rfl (by decide) (as := [m0]) rfl rfl (ws' := [cO m0 11 [.int (nI bN), .int (nI sN0), .int (nI pN), .long k0, .long k1, .int now, .ref x_wd, .ref x_beg, .ref x_std, .ref x_dea, .ref x_frm, .ref x_alv, .ref x_stm, .ref x_mov, .ref x_dwn, .ref x_ctd, .ref x_cutm, .ref x_pha, .ref x_usd, .ref x_gol, .ref x_esr, .ref x_epo, .ref x_offm, .ref x_ast, .ref x_opn, .ref x_ssr, .ref x_spo, .ref x_awa, .ref x_dat, .int kpt, .ref x_hd, .int by0, .int to0, .int rep, .int had, .int ost, .int bst, .ref x_inr], cI K x_inr 5 inr]) rfl 0 11 rfl rfl rfl (cw_Mod_248 hF.2.2.2.2.1 rfl rfl ⟨by decide, by decide⟩) rfl rfl (Nat.le_of_ble_eq_true rfl) d_Mod_wire_127 ⟨Nat.zero_le _, Nat.zero_le _⟩ ?_
                exact zx_iret (pc := 130) hF hr hlk (by first | with_reducible rfl | (simp only [g_wir, if_neg h4, if_neg h8, if_pos h14, if_neg h21, if_neg h30, if_pos h36, if_pos h52]; done) | (simp only [g_wir, h4, h8, h14, h21, h30, h36, h52, ↓reduceIte]; done) | simp [g_wir, h4, h8, h14, h21, h30, h36, h52]) (by first | with_reducible rfl | (simp only [g_wir, if_neg h4, if_neg h8, if_pos h14, if_neg h21, if_neg h30, if_pos h36, if_pos h52]; done) | (simp only [g_wir, h4, h8, h14, h21, h30, h36, h52, ↓reduceIte]; done) | simp [g_wir, h4, h8, h14, h21, h30, h36, h52]) d_Mod_wire_130
              · refine zx_aload_n (pc := 55) hF d_Mod_wire_55 rfl 0 rfl ?_
                refine zg_Mod_88 (pc := 56) hF 0 rfl rfl d_Mod_wire_56 ?_
                refine zx_if_ne (pc := 59) hF d_Mod_wire_59 (tgt := 66) rfl (fun h59 => ?_) (fun h59 => ?_)
                · refine zx_aload_n (pc := 66) hF d_Mod_wire_66 rfl 0 rfl ?_
                  refine zx_iload_n (pc := 67) hF d_Mod_wire_67 rfl 1 rfl ?_
                  refine zx_bipush (pc := 68) hF d_Mod_wire_68 k_b11 ?_
                  refine zx_isub (pc := 70) hF d_Mod_wire_70 ?_
                  refine zx_ldc (pc := 71) hF wk_Mod_246 d_Mod_wire_71 ?_
                  refine zx_aload_n (pc := 73) hF d_Mod_wire_73 rfl 0 rfl ?_
                  refine zg_Mod_230 (pc := 74) hF 0 rfl rfl d_Mod_wire_74 ?_
                  refine zx_ldc (pc := 77) hF wk_Mod_247 d_Mod_wire_77 ?_
                  refine zx_ldc (pc := 79) hF wk_Mod_147 d_Mod_wire_79 ?_
                  refine zx_aload_n (pc := 81) hF d_Mod_wire_81 rfl 0 rfl ?_
                  refine zg_Mod_94 (pc := 82) hF 0 rfl rfl d_Mod_wire_82 ?_
                  refine zx_iconst (pc := 85) hF d_Mod_wire_85 k_i3 ?_
                  refine zx_ialdn (pc := 86) hF (i := 3) 1 rfl (by omega) (by omega) d_Mod_wire_86 ?_
                  refine zx_Vi (pc := 87) hF (As := [.int (t - 11), .int 1157627944, .int bst, .int 1074135040, .int 167772161, .int (inr 3)]) (rest := []) (fun sz => M_Mod_five l D K M m0 bN sN0 pN k0 k1 now x_wd x_beg x_std x_dea x_frm x_alv x_stm x_mov x_dwn x_ctd x_cutm x_pha x_usd x_gol x_esr x_epo x_offm x_ast x_opn x_ssr x_spo x_awa x_dat kpt x_hd by0 to0 rep had ost bst x_inr (t - 11) 1157627944 bst 1074135040 167772161 (inr 3)  sz) [0] rfl (by decide) (as := [m0]) rfl rfl (ws' := [cO m0 11 [.int (nI bN), .int (nI sN0), .int (nI pN), .long k0, .long k1, .int now, .ref x_wd, .ref x_beg, .ref x_std, .ref x_dea, .ref x_frm, .ref x_alv, .ref x_stm, .ref x_mov, .ref x_dwn, .ref x_ctd, .ref x_cutm, .ref x_pha, .ref x_usd, .ref x_gol, .ref x_esr, .ref x_epo, .ref x_offm, .ref x_ast, .ref x_opn, .ref x_ssr, .ref x_spo, .ref x_awa, .ref x_dat, .int kpt, .ref x_hd, .int by0, .int to0, .int rep, .int had, .int ost, .int bst, .ref x_inr], cI K x_inr 5 inr]) rfl 0 11 rfl rfl rfl (cw_Mod_248 hF.2.2.2.2.1 rfl rfl ⟨by decide, by decide⟩) rfl rfl (Nat.le_of_ble_eq_true rfl) d_Mod_wire_87 ⟨Nat.zero_le _, Nat.zero_le _⟩ ?_
                  exact zx_iret (pc := 90) hF hr hlk (by first | with_reducible rfl | (simp only [g_wir, if_neg h4, if_neg h8, if_pos h14, if_neg h21, if_neg h30, if_pos h36, if_neg h52, if_neg h59]; done) | (simp only [g_wir, h4, h8, h14, h21, h30, h36, h52, h59, ↓reduceIte]; done) | simp [g_wir, h4, h8, h14, h21, h30, h36, h52, h59]) (by first | with_reducible rfl | (simp only [g_wir, if_neg h4, if_neg h8, if_pos h14, if_neg h21, if_neg h30, if_pos h36, if_neg h52, if_neg h59]; done) | (simp only [g_wir, h4, h8, h14, h21, h30, h36, h52, h59, ↓reduceIte]; done) | simp [g_wir, h4, h8, h14, h21, h30, h36, h52, h59]) d_Mod_wire_90
                · refine zx_iconst (pc := 62) hF d_Mod_wire_62 k_i0 ?_
                  refine zx_goto (pc := 63) hF d_Mod_wire_63 (tgt := 90) rfl ?_
                  exact zx_iret (pc := 90) hF hr hlk (by first | with_reducible rfl | (simp only [g_wir, if_neg h4, if_neg h8, if_pos h14, if_neg h21, if_neg h30, if_pos h36, if_neg h52, if_pos h59]; done) | (simp only [g_wir, h4, h8, h14, h21, h30, h36, h52, h59, ↓reduceIte]; done) | simp [g_wir, h4, h8, h14, h21, h30, h36, h52, h59]) (by first | with_reducible rfl | (simp only [g_wir, if_neg h4, if_neg h8, if_pos h14, if_neg h21, if_neg h30, if_pos h36, if_neg h52, if_pos h59]; done) | (simp only [g_wir, h4, h8, h14, h21, h30, h36, h52, h59, ↓reduceIte]; done) | simp [g_wir, h4, h8, h14, h21, h30, h36, h52, h59]) d_Mod_wire_90
            · refine zx_aload_n (pc := 39) hF d_Mod_wire_39 rfl 0 rfl ?_
              refine zg_Mod_94 (pc := 40) hF 0 rfl rfl d_Mod_wire_40 ?_
              refine zx_iload_n (pc := 43) hF d_Mod_wire_43 rfl 1 rfl ?_
              refine zx_bipush (pc := 44) hF d_Mod_wire_44 k_b6 ?_
              refine zx_isub (pc := 46) hF d_Mod_wire_46 ?_
              refine zx_iald (pc := 47) hF 1 rfl (g_w6 h30 h36) d_Mod_wire_47 ?_
              exact zx_iret (pc := 48) hF hr hlk (by first | with_reducible rfl | (simp only [g_wir, if_neg h4, if_neg h8, if_pos h14, if_neg h21, if_neg h30, if_neg h36]; done) | (simp only [g_wir, h4, h8, h14, h21, h30, h36, ↓reduceIte]; done) | simp [g_wir, h4, h8, h14, h21, h30, h36]) (by first | with_reducible rfl | (simp only [g_wir, if_neg h4, if_neg h8, if_pos h14, if_neg h21, if_neg h30, if_neg h36]; done) | (simp only [g_wir, h4, h8, h14, h21, h30, h36, ↓reduceIte]; done) | simp [g_wir, h4, h8, h14, h21, h30, h36]) d_Mod_wire_48
        · refine zx_sipush (pc := 24) hF d_Mod_wire_24 k_s2048 ?_
          exact zx_iret (pc := 27) hF hr hlk (by first | with_reducible rfl | (simp only [g_wir, if_neg h4, if_neg h8, if_pos h14, if_pos h21]; done) | (simp only [g_wir, h4, h8, h14, h21, ↓reduceIte]; done) | simp [g_wir, h4, h8, h14, h21]) (by first | with_reducible rfl | (simp only [g_wir, if_neg h4, if_neg h8, if_pos h14, if_pos h21]; done) | (simp only [g_wir, h4, h8, h14, h21, ↓reduceIte]; done) | simp [g_wir, h4, h8, h14, h21]) d_Mod_wire_27
      · exact absurd ht.2 h14
set_option maxRecDepth 20000 in
theorem M_Mod_wire_n (l : Launch) (D : va_G) (K : Nat → ClassId) (M : List (ClassId × FieldType)) (m0 : Nat) (bN : Nat) (sN0 : Nat) (pN : Nat) (k0 : Int64) (k1 : Int64) (now : Int32) (x_wd : Nat) (x_beg : Nat) (x_std : Nat) (x_dea : Nat) (x_frm : Nat) (x_alv : Nat) (x_stm : Nat) (x_mov : Nat) (x_dwn : Nat) (x_ctd : Nat) (x_cutm : Nat) (x_pha : Nat) (x_usd : Nat) (x_gol : Nat) (x_esr : Nat) (x_epo : Nat) (x_offm : Nat) (x_ast : Nat) (x_opn : Nat) (x_ssr : Nat) (x_spo : Nat) (x_awa : Nat) (x_dat : Nat) (kpt : Int32) (x_hd : Nat) (by0 : Int32) (to0 : Int32) (rep : Int32) (had : Int32) (ost : Int32) (bst : Int32) (x_inr : Nat) (t : Int32) (ht : by0 < 0 ∨ t < 0 ∨ ¬ t ≤ 15) (sz : Nat) : zM l y_Mod_wire (zT y_Mod_wire b_Mod_wire 3 (some .int)) (zR 3 76) 0 0 D K M [.ref m0, .int t] [cO m0 11 [.int (nI bN), .int (nI sN0), .int (nI pN), .long k0, .long k1, .int now, .ref x_wd, .ref x_beg, .ref x_std, .ref x_dea, .ref x_frm, .ref x_alv, .ref x_stm, .ref x_mov, .ref x_dwn, .ref x_ctd, .ref x_cutm, .ref x_pha, .ref x_usd, .ref x_gol, .ref x_esr, .ref x_epo, .ref x_offm, .ref x_ast, .ref x_opn, .ref x_ssr, .ref x_spo, .ref x_awa, .ref x_dat, .int kpt, .ref x_hd, .int by0, .int to0, .int rep, .int had, .int ost, .int bst, .ref x_inr]] sz (zQi D K M 0 [cO m0 11 [.int (nI bN), .int (nI sN0), .int (nI pN), .long k0, .long k1, .int now, .ref x_wd, .ref x_beg, .ref x_std, .ref x_dea, .ref x_frm, .ref x_alv, .ref x_stm, .ref x_mov, .ref x_dwn, .ref x_ctd, .ref x_cutm, .ref x_pha, .ref x_usd, .ref x_gol, .ref x_esr, .ref x_epo, .ref x_offm, .ref x_ast, .ref x_opn, .ref x_ssr, .ref x_spo, .ref x_awa, .ref x_dat, .int kpt, .ref x_hd, .int by0, .int to0, .int rep, .int had, .int ost, .int bst, .ref x_inr]]) := by
  refine zx_head (by decide) (Nat.le_of_ble_eq_true rfl) ?_
  intro _ _ _ _ _ _ _ _ _ hF hr hlk hnm
  refine zx_aload_n (pc := 0) hF d_Mod_wire_0 rfl 0 rfl ?_
  refine zg_Mod_84 (pc := 1) hF 0 rfl rfl d_Mod_wire_1 ?_
  refine zx_if_lt (pc := 4) hF d_Mod_wire_4 (tgt := 17) rfl (fun h4 => ?_) (fun h4 => ?_)
  · refine zx_iconst (pc := 17) hF d_Mod_wire_17 k_i0 ?_
    exact zx_iret (pc := 18) hF hr hlk (by first | rfl | (simp only [if_pos h4]; done) | (simp only [h4, ↓reduceIte]; done) | simp [h4]) (by first | rfl | (simp only [if_pos h4]; done) | (simp only [h4, ↓reduceIte]; done) | simp [h4]) d_Mod_wire_18
  · refine zx_iload_n (pc := 7) hF d_Mod_wire_7 rfl 1 rfl ?_
    refine zx_if_lt (pc := 8) hF d_Mod_wire_8 (tgt := 17) rfl (fun h8 => ?_) (fun h8 => ?_)
    · refine zx_iconst (pc := 17) hF d_Mod_wire_17 k_i0 ?_
      exact zx_iret (pc := 18) hF hr hlk (by first | rfl | (simp only [if_neg h4, if_pos h8]; done) | (simp only [h4, h8, ↓reduceIte]; done) | simp [h4, h8]) (by first | rfl | (simp only [if_neg h4, if_pos h8]; done) | (simp only [h4, h8, ↓reduceIte]; done) | simp [h4, h8]) d_Mod_wire_18
    · refine zx_iload_n (pc := 11) hF d_Mod_wire_11 rfl 1 rfl ?_
      refine zx_bipush (pc := 12) hF d_Mod_wire_12 k_b15 ?_
      refine zx_icmp_le (pc := 14) hF d_Mod_wire_14 (tgt := 19) rfl (fun h14 => ?_) (fun h14 => ?_)
      · exact absurd ht (by rintro (z | z | z); exact h4 z; exact h8 z; exact z h14)
      · refine zx_iconst (pc := 17) hF d_Mod_wire_17 k_i0 ?_
        exact zx_iret (pc := 18) hF hr hlk (by first | rfl | (simp only [if_neg h4, if_neg h8, if_neg h14]; done) | (simp only [h4, h8, h14, ↓reduceIte]; done) | simp [h4, h8, h14]) (by first | rfl | (simp only [if_neg h4, if_neg h8, if_neg h14]; done) | (simp only [h4, h8, h14, ↓reduceIte]; done) | simp [h4, h8, h14]) d_Mod_wire_18
