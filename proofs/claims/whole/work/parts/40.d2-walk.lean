set_option maxRecDepth 20000 in
theorem M_Mod_header (l : Launch) (D : va_G) (K : Nat → ClassId) (M : List (ClassId × FieldType)) (m0 : Nat) (bN : Nat) (sN0 : Nat) (pN : Nat) (k0 : Int64) (k1 : Int64) (now : Int32) (x_wd : Nat) (x_beg : Nat) (x_std : Nat) (x_dea : Nat) (x_frm : Nat) (x_alv : Nat) (x_stm : Nat) (x_mov : Nat) (x_dwn : Nat) (x_ctd : Nat) (x_cutm : Nat) (x_pha : Nat) (x_usd : Nat) (x_gol : Nat) (x_esr : Nat) (x_epo : Nat) (x_offm : Nat) (x_ast : Nat) (x_opn : Nat) (x_ssr : Nat) (x_spo : Nat) (x_awa : Nat) (x_dat : Nat) (kpt : Int32) (x_hd : Nat) (by0 : Int32) (to0 : Int32) (rep : Int32) (had : Int32) (ost : Int32) (bst : Int32) (x_inr : Nat) (hd : Nat → Int32) (w0 : Int32) (w1 : Int32) (w2 : Int32) (w3 : Int32) (w4 : Int32) (sz : Nat) : zM l y_Mod_header (zT y_Mod_header b_Mod_header 8 (some .int)) (zR 1 22) 0 0 D K M [.ref m0, .int w0, .int w1, .int w2, .int w3, .int w4] [cO m0 11 [.int (nI bN), .int (nI sN0), .int (nI pN), .long k0, .long k1, .int now, .ref x_wd, .ref x_beg, .ref x_std, .ref x_dea, .ref x_frm, .ref x_alv, .ref x_stm, .ref x_mov, .ref x_dwn, .ref x_ctd, .ref x_cutm, .ref x_pha, .ref x_usd, .ref x_gol, .ref x_esr, .ref x_epo, .ref x_offm, .ref x_ast, .ref x_opn, .ref x_ssr, .ref x_spo, .ref x_awa, .ref x_dat, .int kpt, .ref x_hd, .int by0, .int to0, .int rep, .int had, .int ost, .int bst, .ref x_inr], cI K x_hd 5 hd] sz (zQi D K M (g_hd w0 w1 w2 w3 w4) [cO m0 11 [.int (nI bN), .int (nI sN0), .int (nI pN), .long k0, .long k1, .int now, .ref x_wd, .ref x_beg, .ref x_std, .ref x_dea, .ref x_frm, .ref x_alv, .ref x_stm, .ref x_mov, .ref x_dwn, .ref x_ctd, .ref x_cutm, .ref x_pha, .ref x_usd, .ref x_gol, .ref x_esr, .ref x_epo, .ref x_offm, .ref x_ast, .ref x_opn, .ref x_ssr, .ref x_spo, .ref x_awa, .ref x_dat, .int (g_kept w0 w1 w2 w3 w4 kpt), .ref x_hd, .int by0, .int to0, .int rep, .int had, .int ost, .int bst, .ref x_inr], cI K x_hd 5 (g_head w0 w1 w2 w3 w4 hd)]) := by
  refine zx_head (by decide) (Nat.le_of_ble_eq_true rfl) ?_
  intro _ _ _ _ _ _ _ _ _ hF hr hlk hnm
  refine zx_iload_n (pc := 0) hF d_Mod_header_0 rfl 1 rfl ?_
  refine zx_Si (pc := 1) hF (As := [.int w0]) (rest := []) (fun sz => M_Mod_halves l D K M w0  sz) [] rfl List.nodup_nil (as := []) rfl rfl (ws' := [cO m0 11 [.int (nI bN), .int (nI sN0), .int (nI pN), .long k0, .long k1, .int now, .ref x_wd, .ref x_beg, .ref x_std, .ref x_dea, .ref x_frm, .ref x_alv, .ref x_stm, .ref x_mov, .ref x_dwn, .ref x_ctd, .ref x_cutm, .ref x_pha, .ref x_usd, .ref x_gol, .ref x_esr, .ref x_epo, .ref x_offm, .ref x_ast, .ref x_opn, .ref x_ssr, .ref x_spo, .ref x_awa, .ref x_dat, .int kpt, .ref x_hd, .int by0, .int to0, .int rep, .int had, .int ost, .int bst, .ref x_inr], cI K x_hd 5 hd]) rfl (cw_Mod_140 hF.2.2.2.2.1 rfl rfl ⟨by decide, by decide⟩) rfl rfl (Nat.le_of_ble_eq_true rfl) d_Mod_header_1 ⟨Nat.zero_le _, Nat.zero_le _⟩ ?_
  refine zx_iload_n (pc := 4) hF d_Mod_header_4 rfl 2 rfl ?_
  refine zx_Si (pc := 5) hF (As := [.int w1]) (rest := [.int (g_halves w0)]) (fun sz => M_Mod_halves l D K M w1  sz) [] rfl List.nodup_nil (as := []) rfl rfl (ws' := [cO m0 11 [.int (nI bN), .int (nI sN0), .int (nI pN), .long k0, .long k1, .int now, .ref x_wd, .ref x_beg, .ref x_std, .ref x_dea, .ref x_frm, .ref x_alv, .ref x_stm, .ref x_mov, .ref x_dwn, .ref x_ctd, .ref x_cutm, .ref x_pha, .ref x_usd, .ref x_gol, .ref x_esr, .ref x_epo, .ref x_offm, .ref x_ast, .ref x_opn, .ref x_ssr, .ref x_spo, .ref x_awa, .ref x_dat, .int kpt, .ref x_hd, .int by0, .int to0, .int rep, .int had, .int ost, .int bst, .ref x_inr], cI K x_hd 5 hd]) rfl (cw_Mod_140 hF.2.2.2.2.1 rfl rfl ⟨by decide, by decide⟩) rfl rfl (Nat.le_of_ble_eq_true rfl) d_Mod_header_5 ⟨Nat.zero_le _, Nat.zero_le _⟩ ?_
  refine zx_iadd (pc := 8) hF d_Mod_header_8 ?_
  refine zx_iload_n (pc := 9) hF d_Mod_header_9 rfl 3 rfl ?_
  refine zx_Si (pc := 10) hF (As := [.int w2]) (rest := [.int ((g_halves w0) + (g_halves w1))]) (fun sz => M_Mod_halves l D K M w2  sz) [] rfl List.nodup_nil (as := []) rfl rfl (ws' := [cO m0 11 [.int (nI bN), .int (nI sN0), .int (nI pN), .long k0, .long k1, .int now, .ref x_wd, .ref x_beg, .ref x_std, .ref x_dea, .ref x_frm, .ref x_alv, .ref x_stm, .ref x_mov, .ref x_dwn, .ref x_ctd, .ref x_cutm, .ref x_pha, .ref x_usd, .ref x_gol, .ref x_esr, .ref x_epo, .ref x_offm, .ref x_ast, .ref x_opn, .ref x_ssr, .ref x_spo, .ref x_awa, .ref x_dat, .int kpt, .ref x_hd, .int by0, .int to0, .int rep, .int had, .int ost, .int bst, .ref x_inr], cI K x_hd 5 hd]) rfl (cw_Mod_140 hF.2.2.2.2.1 rfl rfl ⟨by decide, by decide⟩) rfl rfl (Nat.le_of_ble_eq_true rfl) d_Mod_header_10 ⟨Nat.zero_le _, Nat.zero_le _⟩ ?_
  refine zx_iadd (pc := 13) hF d_Mod_header_13 ?_
  refine zx_iload (pc := 14) hF d_Mod_header_14 4 rfl ?_
  refine zx_Si (pc := 16) hF (As := [.int w3]) (rest := [.int (((g_halves w0) + (g_halves w1)) + (g_halves w2))]) (fun sz => M_Mod_halves l D K M w3  sz) [] rfl List.nodup_nil (as := []) rfl rfl (ws' := [cO m0 11 [.int (nI bN), .int (nI sN0), .int (nI pN), .long k0, .long k1, .int now, .ref x_wd, .ref x_beg, .ref x_std, .ref x_dea, .ref x_frm, .ref x_alv, .ref x_stm, .ref x_mov, .ref x_dwn, .ref x_ctd, .ref x_cutm, .ref x_pha, .ref x_usd, .ref x_gol, .ref x_esr, .ref x_epo, .ref x_offm, .ref x_ast, .ref x_opn, .ref x_ssr, .ref x_spo, .ref x_awa, .ref x_dat, .int kpt, .ref x_hd, .int by0, .int to0, .int rep, .int had, .int ost, .int bst, .ref x_inr], cI K x_hd 5 hd]) rfl (cw_Mod_140 hF.2.2.2.2.1 rfl rfl ⟨by decide, by decide⟩) rfl rfl (Nat.le_of_ble_eq_true rfl) d_Mod_header_16 ⟨Nat.zero_le _, Nat.zero_le _⟩ ?_
  refine zx_iadd (pc := 19) hF d_Mod_header_19 ?_
  refine zx_iload (pc := 20) hF d_Mod_header_20 5 rfl ?_
  refine zx_Si (pc := 22) hF (As := [.int w4]) (rest := [.int ((((g_halves w0) + (g_halves w1)) + (g_halves w2)) + (g_halves w3))]) (fun sz => M_Mod_halves l D K M w4  sz) [] rfl List.nodup_nil (as := []) rfl rfl (ws' := [cO m0 11 [.int (nI bN), .int (nI sN0), .int (nI pN), .long k0, .long k1, .int now, .ref x_wd, .ref x_beg, .ref x_std, .ref x_dea, .ref x_frm, .ref x_alv, .ref x_stm, .ref x_mov, .ref x_dwn, .ref x_ctd, .ref x_cutm, .ref x_pha, .ref x_usd, .ref x_gol, .ref x_esr, .ref x_epo, .ref x_offm, .ref x_ast, .ref x_opn, .ref x_ssr, .ref x_spo, .ref x_awa, .ref x_dat, .int kpt, .ref x_hd, .int by0, .int to0, .int rep, .int had, .int ost, .int bst, .ref x_inr], cI K x_hd 5 hd]) rfl (cw_Mod_140 hF.2.2.2.2.1 rfl rfl ⟨by decide, by decide⟩) rfl rfl (Nat.le_of_ble_eq_true rfl) d_Mod_header_22 ⟨Nat.zero_le _, Nat.zero_le _⟩ ?_
  refine zx_iadd (pc := 25) hF d_Mod_header_25 ?_
  refine zx_Si (pc := 26) hF (As := [.int (((((g_halves w0) + (g_halves w1)) + (g_halves w2)) + (g_halves w3)) + (g_halves w4))]) (rest := []) (fun sz => M_Mod_fold l D K M (((((g_halves w0) + (g_halves w1)) + (g_halves w2)) + (g_halves w3)) + (g_halves w4))  sz) [] rfl List.nodup_nil (as := []) rfl rfl (ws' := [cO m0 11 [.int (nI bN), .int (nI sN0), .int (nI pN), .long k0, .long k1, .int now, .ref x_wd, .ref x_beg, .ref x_std, .ref x_dea, .ref x_frm, .ref x_alv, .ref x_stm, .ref x_mov, .ref x_dwn, .ref x_ctd, .ref x_cutm, .ref x_pha, .ref x_usd, .ref x_gol, .ref x_esr, .ref x_epo, .ref x_offm, .ref x_ast, .ref x_opn, .ref x_ssr, .ref x_spo, .ref x_awa, .ref x_dat, .int kpt, .ref x_hd, .int by0, .int to0, .int rep, .int had, .int ost, .int bst, .ref x_inr], cI K x_hd 5 hd]) rfl (cw_Mod_144 hF.2.2.2.2.1 rfl rfl ⟨by decide, by decide⟩) rfl rfl (Nat.le_of_ble_eq_true rfl) d_Mod_header_26 ⟨Nat.zero_le _, Nat.zero_le _⟩ ?_
  refine zx_istore (pc := 29) hF (lv' := [(6, .int (g_fold 20 (((((g_halves w0) + (g_halves w1)) + (g_halves w2)) + (g_halves w3)) + (g_halves w4)))), (0, .ref m0), (1, .int w0), (2, .int w1), (3, .int w2), (4, .int w3), (5, .int w4)]) d_Mod_header_29 (by decide) rfl ?_
  refine zx_iload_n (pc := 31) hF d_Mod_header_31 rfl 2 rfl ?_
  refine zx_ldc (pc := 32) hF wk_Mod_138 d_Mod_header_32 ?_
  refine zx_iand (pc := 34) hF d_Mod_header_34 ?_
  refine zx_istore (pc := 35) hF (lv' := [(7, .int (w0 &&& 65535)), (6, .int (g_fold 20 (((((g_halves w0) + (g_halves w1)) + (g_halves w2)) + (g_halves w3)) + (g_halves w4)))), (0, .ref m0), (1, .int w0), (2, .int w1), (3, .int w2), (4, .int w3), (5, .int w4)]) d_Mod_header_35 (by decide) rfl ?_
  refine zx_iload_n (pc := 37) hF d_Mod_header_37 rfl 3 rfl ?_
  refine zx_bipush (pc := 38) hF d_Mod_header_38 k_b24 ?_
  refine zx_ishr (pc := 40) hF d_Mod_header_40 ?_
  refine zx_sipush (pc := 41) hF d_Mod_header_41 k_s255 ?_
  refine zx_iand (pc := 44) hF d_Mod_header_44 ?_
  refine zx_bipush (pc := 45) hF d_Mod_header_45 k_b69 ?_
  refine zx_icmp_eq (pc := 47) hF d_Mod_header_47 (tgt := 52) rfl (fun h47 => ?_) (fun h47 => ?_)
  · refine zx_iload (pc := 52) hF d_Mod_header_52 1 rfl ?_
    refine zx_ldc (pc := 54) hF wk_Mod_138 d_Mod_header_54 ?_
    refine zx_icmp_eq (pc := 56) hF d_Mod_header_56 (tgt := 61) rfl (fun h56 => ?_) (fun h56 => ?_)
    · refine zx_iload (pc := 61) hF d_Mod_header_61 0 rfl ?_
      refine zx_bipush (pc := 63) hF d_Mod_header_63 k_b40 ?_
      refine zx_icmp_lt (pc := 65) hF d_Mod_header_65 (tgt := 76) rfl (fun h65 => ?_) (fun h65 => ?_)
      · refine zx_iconst (pc := 76) hF d_Mod_header_76 k_i3 ?_
        exact zx_iret (pc := 77) hF hr hlk (by have hh : g_hd w0 w1 w2 w3 w4 = 3 := (by unfold g_hd g_all f_rem; rw [if_pos h47, if_pos h56, if_pos h65]); exact hh.symm) (by have hh : g_hd w0 w1 w2 w3 w4 = 3 := (by unfold g_hd g_all f_rem; rw [if_pos h47, if_pos h56, if_pos h65]); simp [g_kept, g_head, hh]) d_Mod_header_77
      · refine zx_iload (pc := 68) hF d_Mod_header_68 0 rfl ?_
        refine zx_sipush (pc := 70) hF d_Mod_header_70 k_s1480 ?_
        refine zx_icmp_le (pc := 73) hF d_Mod_header_73 (tgt := 78) rfl (fun h73 => ?_) (fun h73 => ?_)
        · refine zx_iload_n (pc := 78) hF d_Mod_header_78 rfl 4 rfl ?_
          refine zx_sipush (pc := 79) hF d_Mod_header_79 k_s16384 ?_
          refine zx_irem (pc := 82) hF d_Mod_header_82 (by decide) ?_
          refine zx_if_eq (pc := 83) hF d_Mod_header_83 (tgt := 88) rfl (fun h83 => ?_) (fun h83 => ?_)
          · refine zx_iload_n (pc := 88) hF d_Mod_header_88 rfl 5 rfl ?_
            refine zx_bipush (pc := 89) hF d_Mod_header_89 k_b24 ?_
            refine zx_ishr (pc := 91) hF d_Mod_header_91 ?_
            refine zx_sipush (pc := 92) hF d_Mod_header_92 k_s255 ?_
            refine zx_iand (pc := 95) hF d_Mod_header_95 ?_
            refine zx_if_ne (pc := 96) hF d_Mod_header_96 (tgt := 101) rfl (fun h96 => ?_) (fun h96 => ?_)
            · refine zx_iload_n (pc := 101) hF d_Mod_header_101 rfl 5 rfl ?_
              refine zx_bipush (pc := 102) hF d_Mod_header_102 k_b16 ?_
              refine zx_ishr (pc := 104) hF d_Mod_header_104 ?_
              refine zx_sipush (pc := 105) hF d_Mod_header_105 k_s255 ?_
              refine zx_iand (pc := 108) hF d_Mod_header_108 ?_
              refine zx_bipush (pc := 109) hF d_Mod_header_109 k_b6 ?_
              refine zx_icmp_eq (pc := 111) hF d_Mod_header_111 (tgt := 117) rfl (fun h111 => ?_) (fun h111 => ?_)
              · refine zx_iload (pc := 117) hF d_Mod_header_117 7 rfl ?_
                refine zx_ldc (pc := 119) hF wk_Mod_147 d_Mod_header_119 ?_
                refine zx_icmp_eq (pc := 121) hF d_Mod_header_121 (tgt := 127) rfl (fun h121 => ?_) (fun h121 => ?_)
                · refine zx_aload_n (pc := 127) hF d_Mod_header_127 rfl 2 rfl ?_
                  refine zx_iconst (pc := 128) hF d_Mod_header_128 k_i1 ?_
                  refine zp_Mod_148 (pc := 129) hF 0 rfl (Or.inr rfl) (Nat.le_of_ble_eq_true rfl) d_Mod_header_129 (ws' := [cO m0 11 [.int (nI bN), .int (nI sN0), .int (nI pN), .long k0, .long k1, .int now, .ref x_wd, .ref x_beg, .ref x_std, .ref x_dea, .ref x_frm, .ref x_alv, .ref x_stm, .ref x_mov, .ref x_dwn, .ref x_ctd, .ref x_cutm, .ref x_pha, .ref x_usd, .ref x_gol, .ref x_esr, .ref x_epo, .ref x_offm, .ref x_ast, .ref x_opn, .ref x_ssr, .ref x_spo, .ref x_awa, .ref x_dat, .int 1, .ref x_hd, .int by0, .int to0, .int rep, .int had, .int ost, .int bst, .ref x_inr], cI K x_hd 5 hd]) rfl ?_
                  refine zx_aload_n (pc := 132) hF d_Mod_header_132 rfl 2 rfl ?_
                  refine zg_Mod_81 (pc := 133) hF 0 rfl rfl d_Mod_header_133 ?_
                  refine zx_iconst (pc := 136) hF d_Mod_header_136 k_i0 ?_
                  refine zx_iload_n (pc := 137) hF d_Mod_header_137 rfl 3 rfl ?_
                  refine zx_iastn (pc := 138) hF (i := 0) 1 rfl (by omega) (by omega) d_Mod_header_138 (ws' := [cO m0 11 [.int (nI bN), .int (nI sN0), .int (nI pN), .long k0, .long k1, .int now, .ref x_wd, .ref x_beg, .ref x_std, .ref x_dea, .ref x_frm, .ref x_alv, .ref x_stm, .ref x_mov, .ref x_dwn, .ref x_ctd, .ref x_cutm, .ref x_pha, .ref x_usd, .ref x_gol, .ref x_esr, .ref x_epo, .ref x_offm, .ref x_ast, .ref x_opn, .ref x_ssr, .ref x_spo, .ref x_awa, .ref x_dat, .int 1, .ref x_hd, .int by0, .int to0, .int rep, .int had, .int ost, .int bst, .ref x_inr], cI K x_hd 5 (upd hd 0 w0)]) rfl ?_
                  refine zx_aload_n (pc := 139) hF d_Mod_header_139 rfl 2 rfl ?_
                  refine zg_Mod_81 (pc := 140) hF 0 rfl rfl d_Mod_header_140 ?_
                  refine zx_iconst (pc := 143) hF d_Mod_header_143 k_i1 ?_
                  refine zx_iload_n (pc := 144) hF d_Mod_header_144 rfl 4 rfl ?_
                  refine zx_iastn (pc := 145) hF (i := 1) 1 rfl (by omega) (by omega) d_Mod_header_145 (ws' := [cO m0 11 [.int (nI bN), .int (nI sN0), .int (nI pN), .long k0, .long k1, .int now, .ref x_wd, .ref x_beg, .ref x_std, .ref x_dea, .ref x_frm, .ref x_alv, .ref x_stm, .ref x_mov, .ref x_dwn, .ref x_ctd, .ref x_cutm, .ref x_pha, .ref x_usd, .ref x_gol, .ref x_esr, .ref x_epo, .ref x_offm, .ref x_ast, .ref x_opn, .ref x_ssr, .ref x_spo, .ref x_awa, .ref x_dat, .int 1, .ref x_hd, .int by0, .int to0, .int rep, .int had, .int ost, .int bst, .ref x_inr], cI K x_hd 5 (upd (upd hd 0 w0) 1 w1)]) rfl ?_
                  refine zx_aload_n (pc := 146) hF d_Mod_header_146 rfl 2 rfl ?_
                  refine zg_Mod_81 (pc := 147) hF 0 rfl rfl d_Mod_header_147 ?_
                  refine zx_iconst (pc := 150) hF d_Mod_header_150 k_i2 ?_
                  refine zx_iload_n (pc := 151) hF d_Mod_header_151 rfl 5 rfl ?_
                  refine zx_iastn (pc := 152) hF (i := 2) 1 rfl (by omega) (by omega) d_Mod_header_152 (ws' := [cO m0 11 [.int (nI bN), .int (nI sN0), .int (nI pN), .long k0, .long k1, .int now, .ref x_wd, .ref x_beg, .ref x_std, .ref x_dea, .ref x_frm, .ref x_alv, .ref x_stm, .ref x_mov, .ref x_dwn, .ref x_ctd, .ref x_cutm, .ref x_pha, .ref x_usd, .ref x_gol, .ref x_esr, .ref x_epo, .ref x_offm, .ref x_ast, .ref x_opn, .ref x_ssr, .ref x_spo, .ref x_awa, .ref x_dat, .int 1, .ref x_hd, .int by0, .int to0, .int rep, .int had, .int ost, .int bst, .ref x_inr], cI K x_hd 5 (upd (upd (upd hd 0 w0) 1 w1) 2 w2)]) rfl ?_
                  refine zx_aload_n (pc := 153) hF d_Mod_header_153 rfl 2 rfl ?_
                  refine zg_Mod_81 (pc := 154) hF 0 rfl rfl d_Mod_header_154 ?_
                  refine zx_iconst (pc := 157) hF d_Mod_header_157 k_i3 ?_
                  refine zx_iload (pc := 158) hF d_Mod_header_158 6 rfl ?_
                  refine zx_iastn (pc := 160) hF (i := 3) 1 rfl (by omega) (by omega) d_Mod_header_160 (ws' := [cO m0 11 [.int (nI bN), .int (nI sN0), .int (nI pN), .long k0, .long k1, .int now, .ref x_wd, .ref x_beg, .ref x_std, .ref x_dea, .ref x_frm, .ref x_alv, .ref x_stm, .ref x_mov, .ref x_dwn, .ref x_ctd, .ref x_cutm, .ref x_pha, .ref x_usd, .ref x_gol, .ref x_esr, .ref x_epo, .ref x_offm, .ref x_ast, .ref x_opn, .ref x_ssr, .ref x_spo, .ref x_awa, .ref x_dat, .int 1, .ref x_hd, .int by0, .int to0, .int rep, .int had, .int ost, .int bst, .ref x_inr], cI K x_hd 5 (upd (upd (upd (upd hd 0 w0) 1 w1) 2 w2) 3 w3)]) rfl ?_
                  refine zx_aload_n (pc := 161) hF d_Mod_header_161 rfl 2 rfl ?_
                  refine zg_Mod_81 (pc := 162) hF 0 rfl rfl d_Mod_header_162 ?_
                  refine zx_iconst (pc := 165) hF d_Mod_header_165 k_i4 ?_
                  refine zx_iload (pc := 166) hF d_Mod_header_166 7 rfl ?_
                  refine zx_iastn (pc := 168) hF (i := 4) 1 rfl (by omega) (by omega) d_Mod_header_168 (ws' := [cO m0 11 [.int (nI bN), .int (nI sN0), .int (nI pN), .long k0, .long k1, .int now, .ref x_wd, .ref x_beg, .ref x_std, .ref x_dea, .ref x_frm, .ref x_alv, .ref x_stm, .ref x_mov, .ref x_dwn, .ref x_ctd, .ref x_cutm, .ref x_pha, .ref x_usd, .ref x_gol, .ref x_esr, .ref x_epo, .ref x_offm, .ref x_ast, .ref x_opn, .ref x_ssr, .ref x_spo, .ref x_awa, .ref x_dat, .int 1, .ref x_hd, .int by0, .int to0, .int rep, .int had, .int ost, .int bst, .ref x_inr], cI K x_hd 5 (upd (upd (upd (upd (upd hd 0 w0) 1 w1) 2 w2) 3 w3) 4 w4)]) rfl ?_
                  refine zx_iconst (pc := 169) hF d_Mod_header_169 k_i0 ?_
                  exact zx_iret (pc := 170) hF hr hlk (by have hh : g_hd w0 w1 w2 w3 w4 = 0 := (by unfold g_hd g_all f_rem; rw [if_pos h47, if_pos h56, if_neg h65, if_pos h73, if_pos h83, if_neg h96, if_pos h111, if_pos h121]); exact hh.symm) (by have hh : g_hd w0 w1 w2 w3 w4 = 0 := (by unfold g_hd g_all f_rem; rw [if_pos h47, if_pos h56, if_neg h65, if_pos h73, if_pos h83, if_neg h96, if_pos h111, if_pos h121]); simp [g_kept, g_head, hh]) d_Mod_header_170
                · refine zx_bipush (pc := 124) hF d_Mod_header_124 k_b7 ?_
                  exact zx_iret (pc := 126) hF hr hlk (by have hh : g_hd w0 w1 w2 w3 w4 = 7 := (by unfold g_hd g_all f_rem; rw [if_pos h47, if_pos h56, if_neg h65, if_pos h73, if_pos h83, if_neg h96, if_pos h111, if_neg h121]); exact hh.symm) (by have hh : g_hd w0 w1 w2 w3 w4 = 7 := (by unfold g_hd g_all f_rem; rw [if_pos h47, if_pos h56, if_neg h65, if_pos h73, if_pos h83, if_neg h96, if_pos h111, if_neg h121]); simp [g_kept, g_head, hh]) d_Mod_header_126
              · refine zx_bipush (pc := 114) hF d_Mod_header_114 k_b6 ?_
                exact zx_iret (pc := 116) hF hr hlk (by have hh : g_hd w0 w1 w2 w3 w4 = 6 := (by unfold g_hd g_all f_rem; rw [if_pos h47, if_pos h56, if_neg h65, if_pos h73, if_pos h83, if_neg h96, if_neg h111]); exact hh.symm) (by have hh : g_hd w0 w1 w2 w3 w4 = 6 := (by unfold g_hd g_all f_rem; rw [if_pos h47, if_pos h56, if_neg h65, if_pos h73, if_pos h83, if_neg h96, if_neg h111]); simp [g_kept, g_head, hh]) d_Mod_header_116
            · refine zx_iconst (pc := 99) hF d_Mod_header_99 k_i5 ?_
              exact zx_iret (pc := 100) hF hr hlk (by have hh : g_hd w0 w1 w2 w3 w4 = 5 := (by unfold g_hd g_all f_rem; rw [if_pos h47, if_pos h56, if_neg h65, if_pos h73, if_pos h83, if_pos h96]); exact hh.symm) (by have hh : g_hd w0 w1 w2 w3 w4 = 5 := (by unfold g_hd g_all f_rem; rw [if_pos h47, if_pos h56, if_neg h65, if_pos h73, if_pos h83, if_pos h96]); simp [g_kept, g_head, hh]) d_Mod_header_100
          · refine zx_iconst (pc := 86) hF d_Mod_header_86 k_i4 ?_
            exact zx_iret (pc := 87) hF hr hlk (by have hh : g_hd w0 w1 w2 w3 w4 = 4 := (by unfold g_hd g_all f_rem; rw [if_pos h47, if_pos h56, if_neg h65, if_pos h73, if_neg h83]); exact hh.symm) (by have hh : g_hd w0 w1 w2 w3 w4 = 4 := (by unfold g_hd g_all f_rem; rw [if_pos h47, if_pos h56, if_neg h65, if_pos h73, if_neg h83]); simp [g_kept, g_head, hh]) d_Mod_header_87
        · refine zx_iconst (pc := 76) hF d_Mod_header_76 k_i3 ?_
          exact zx_iret (pc := 77) hF hr hlk (by have hh : g_hd w0 w1 w2 w3 w4 = 3 := (by unfold g_hd g_all f_rem; rw [if_pos h47, if_pos h56, if_neg h65, if_neg h73]); exact hh.symm) (by have hh : g_hd w0 w1 w2 w3 w4 = 3 := (by unfold g_hd g_all f_rem; rw [if_pos h47, if_pos h56, if_neg h65, if_neg h73]); simp [g_kept, g_head, hh]) d_Mod_header_77
    · refine zx_iconst (pc := 59) hF d_Mod_header_59 k_i2 ?_
      exact zx_iret (pc := 60) hF hr hlk (by have hh : g_hd w0 w1 w2 w3 w4 = 2 := (by unfold g_hd g_all f_rem; rw [if_pos h47, if_neg h56]); exact hh.symm) (by have hh : g_hd w0 w1 w2 w3 w4 = 2 := (by unfold g_hd g_all f_rem; rw [if_pos h47, if_neg h56]); simp [g_kept, g_head, hh]) d_Mod_header_60
  · refine zx_iconst (pc := 50) hF d_Mod_header_50 k_i1 ?_
    exact zx_iret (pc := 51) hF hr hlk (by have hh : g_hd w0 w1 w2 w3 w4 = 1 := (by unfold g_hd g_all f_rem; rw [if_neg h47]); exact hh.symm) (by have hh : g_hd w0 w1 w2 w3 w4 = 1 := (by unfold g_hd g_all f_rem; rw [if_neg h47]); simp [g_kept, g_head, hh]) d_Mod_header_51
set_option maxRecDepth 20000 in
theorem M_Mod_turned (l : Launch) (D : va_G) (K : Nat → ClassId) (M : List (ClassId × FieldType)) (x : Int64) (t : Nat) (ht : t < 2 ^ 31) (sz : Nat) : zM l y_Mod_turned (zT y_Mod_turned b_Mod_turned 6 (some .long)) (zR 0 0) 0 0 D K M [.long x, .int (nI t)] [] sz (zQl D K M (g_turn t x) []) := by
  refine zx_head (by decide) (Nat.le_of_ble_eq_true rfl) ?_
  intro _ _ _ _ _ _ _ _ _ hF hr hlk hnm
  refine zx_lload_n (pc := 0) hF d_Mod_turned_0 rfl 0 rfl ?_
  refine zx_lstore_n (pc := 1) hF (lv' := [(3, .long x), (0, .long x), (2, .int (nI t))]) d_Mod_turned_1 rfl (by decide) rfl ?_
  refine zx_iconst (pc := 2) hF d_Mod_turned_2 k_i0 ?_
  refine zx_istore (pc := 3) hF (lv' := [(5, .int 0), (3, .long x), (0, .long x), (2, .int (nI t))]) d_Mod_turned_3 (by decide) rfl ?_
  refine zx_lv [3, 1, 0] (lv' := [(2, .int (nI t)), (3, .long x), (5, .int 0)]) rfl ?_
  refine zx_loop (pc := 5) (σ := Nat × Int64) (fun k zv => (zv.1 + k = t) ∧ (g_turn k zv.2 = g_turn t x)) (fun zv => []) (fun zv => [(2, .int (nI t)), (3, .long zv.2), (5, .int (nI zv.1))]) t (0, x) ⟨by first | omega | (dsimp only; omega) | dsimp only, rfl⟩ rfl rfl ?_
  intro k zv hI ih
  obtain ⟨j, y⟩ := zv
  obtain ⟨hk, hX⟩ := hI
  replace hk : j + k = t := hk
  replace hX : g_turn k y = g_turn t x := hX
  refine zx_eq (ws' := []) (lv' := [(2, .int (nI t)), (3, .long y), (5, .int (nI j))]) rfl rfl rfl ?_
  refine zx_iload (pc := 5) hF d_Mod_turned_5 2 rfl ?_
  refine zx_iload_n (pc := 7) hF d_Mod_turned_7 rfl 0 rfl ?_
  refine zx_icmp_ge (pc := 8) hF d_Mod_turned_8 (tgt := 35) rfl (fun h8 => ?_) (fun h8 => ?_)
  · replace h8 : t ≤ j := (nI_leI (a := t) (b := j) (by omega) (by omega)).mp h8
    refine zx_lload_n (pc := 35) hF d_Mod_turned_35 rfl 1 rfl ?_
    exact zx_lret (pc := 36) hF hr hlk (by obtain rfl : k = 0 := (by omega); exact hX) rfl d_Mod_turned_36
  · replace h8 : ¬ t ≤ j := fun z => h8 ((nI_leI (a := t) (b := j) (by omega) (by omega)).mpr z)
    refine zx_lload_n (pc := 11) hF d_Mod_turned_11 rfl 1 rfl ?_
    refine zx_lconst (pc := 12) hF d_Mod_turned_12 k_l0 ?_
    refine zx_lcmp (pc := 13) hF d_Mod_turned_13 ?_
    refine zx_if_ge (pc := 14) hF d_Mod_turned_14 (tgt := 25) rfl (fun h14 => ?_) (fun h14 => ?_)
    · refine zx_lload_n (pc := 25) hF d_Mod_turned_25 rfl 1 rfl ?_
      refine zx_lload_n (pc := 26) hF d_Mod_turned_26 rfl 1 rfl ?_
      refine zx_ladd (pc := 27) hF d_Mod_turned_27 ?_
      refine zx_lstore_n (pc := 28) hF (lv' := [(3, .long (y + y)), (2, .int (nI t)), (5, .int (nI j))]) d_Mod_turned_28 rfl (by decide) rfl ?_
      refine zx_iinc (pc := 29) hF (v := nI (j + 1)) (lv' := [(5, .int (nI (j + 1))), (3, .long (y + y)), (2, .int (nI t))]) d_Mod_turned_29 2 rfl (zinc j) (by decide) rfl ?_
      refine zx_goto (pc := 32) hF d_Mod_turned_32 (tgt := 5) rfl ?_
      refine zx_lv [2, 1, 0] (lv' := [(2, .int (nI t)), (3, .long (y + y)), (5, .int (nI (j + 1)))]) rfl ?_
      exact ih (k - 1) (j + 1, (y + y)) (by omega) ⟨by first | omega | (dsimp only; omega) | dsimp only, by obtain ⟨k', rfl⟩ : ∃ k', k = k' + 1 := ⟨k - 1, by omega⟩; simp only [g_turn, g_dbl, h14, ↓reduceIte] at hX; exact hX⟩
    · refine zx_lload_n (pc := 17) hF d_Mod_turned_17 rfl 1 rfl ?_
      refine zx_lload_n (pc := 18) hF d_Mod_turned_18 rfl 1 rfl ?_
      refine zx_ladd (pc := 19) hF d_Mod_turned_19 ?_
      refine zx_lconst (pc := 20) hF d_Mod_turned_20 k_l1 ?_
      refine zx_ladd (pc := 21) hF d_Mod_turned_21 ?_
      refine zx_goto (pc := 22) hF d_Mod_turned_22 (tgt := 28) rfl ?_
      refine zx_lstore_n (pc := 28) hF (lv' := [(3, .long ((y + y) + 1)), (2, .int (nI t)), (5, .int (nI j))]) d_Mod_turned_28 rfl (by decide) rfl ?_
      refine zx_iinc (pc := 29) hF (v := nI (j + 1)) (lv' := [(5, .int (nI (j + 1))), (3, .long ((y + y) + 1)), (2, .int (nI t))]) d_Mod_turned_29 2 rfl (zinc j) (by decide) rfl ?_
      refine zx_goto (pc := 32) hF d_Mod_turned_32 (tgt := 5) rfl ?_
      refine zx_lv [2, 1, 0] (lv' := [(2, .int (nI t)), (3, .long ((y + y) + 1)), (5, .int (nI (j + 1)))]) rfl ?_
      exact ih (k - 1) (j + 1, ((y + y) + 1)) (by omega) ⟨by first | omega | (dsimp only; omega) | dsimp only, by obtain ⟨k', rfl⟩ : ∃ k', k = k' + 1 := ⟨k - 1, by omega⟩; simp only [g_turn, g_dbl, h14, ↓reduceIte] at hX; exact hX⟩
set_option maxRecDepth 20000 in
theorem M_Mod_mix (l : Launch) (D : va_G) (K : Nat → ClassId) (M : List (ClassId × FieldType)) (m0 : Nat) (bN : Nat) (sN0 : Nat) (pN : Nat) (k0 : Int64) (k1 : Int64) (now : Int32) (x_wd : Nat) (x_beg : Nat) (x_std : Nat) (x_dea : Nat) (x_frm : Nat) (x_alv : Nat) (x_stm : Nat) (x_mov : Nat) (x_dwn : Nat) (x_ctd : Nat) (x_cutm : Nat) (x_pha : Nat) (x_usd : Nat) (x_gol : Nat) (x_esr : Nat) (x_epo : Nat) (x_offm : Nat) (x_ast : Nat) (x_opn : Nat) (x_ssr : Nat) (x_spo : Nat) (x_awa : Nat) (x_dat : Nat) (kpt : Int32) (x_hd : Nat) (by0 : Int32) (to0 : Int32) (rep : Int32) (had : Int32) (ost : Int32) (bst : Int32) (x_inr : Nat) (wd : Nat → Int64) (a : Nat) (b : Nat) (q : Nat) (t : Nat) (ha : a < 4) (hb : b < 4) (hq : q < 100) (ht : t < 100) (sz : Nat) : zM l y_Mod_mix (zT y_Mod_mix b_Mod_mix 5 none) (zR 1 25) 0 0 D K M [.ref m0, .int (nI a), .int (nI b), .int (nI q), .int (nI t)] [cO m0 11 [.int (nI bN), .int (nI sN0), .int (nI pN), .long k0, .long k1, .int now, .ref x_wd, .ref x_beg, .ref x_std, .ref x_dea, .ref x_frm, .ref x_alv, .ref x_stm, .ref x_mov, .ref x_dwn, .ref x_ctd, .ref x_cutm, .ref x_pha, .ref x_usd, .ref x_gol, .ref x_esr, .ref x_epo, .ref x_offm, .ref x_ast, .ref x_opn, .ref x_ssr, .ref x_spo, .ref x_awa, .ref x_dat, .int kpt, .ref x_hd, .int by0, .int to0, .int rep, .int had, .int ost, .int bst, .ref x_inr], cJ K x_wd 4 wd] sz (zQv D K M [cO m0 11 [.int (nI bN), .int (nI sN0), .int (nI pN), .long k0, .long k1, .int now, .ref x_wd, .ref x_beg, .ref x_std, .ref x_dea, .ref x_frm, .ref x_alv, .ref x_stm, .ref x_mov, .ref x_dwn, .ref x_ctd, .ref x_cutm, .ref x_pha, .ref x_usd, .ref x_gol, .ref x_esr, .ref x_epo, .ref x_offm, .ref x_ast, .ref x_opn, .ref x_ssr, .ref x_spo, .ref x_awa, .ref x_dat, .int kpt, .ref x_hd, .int by0, .int to0, .int rep, .int had, .int ost, .int bst, .ref x_inr], cJ K x_wd 4 (g_mix a b q t wd)]) := by
  refine zx_head (by decide) (Nat.le_of_ble_eq_true rfl) ?_
  intro _ _ _ _ _ _ _ _ _ hF hr hlk hnm
  refine zx_aload_n (pc := 0) hF d_Mod_mix_0 rfl 0 rfl ?_
  refine zg_Mod_7 (pc := 1) hF 0 rfl rfl d_Mod_mix_1 ?_
  refine zx_iload_n (pc := 4) hF d_Mod_mix_4 rfl 1 rfl ?_
  refine zx_aload_n (pc := 5) hF d_Mod_mix_5 rfl 0 rfl ?_
  refine zg_Mod_7 (pc := 6) hF 0 rfl rfl d_Mod_mix_6 ?_
  refine zx_iload_n (pc := 9) hF d_Mod_mix_9 rfl 1 rfl ?_
  refine zx_laldn (pc := 10) hF (i := a) 1 rfl (by omega) (by omega) d_Mod_mix_10 ?_
  refine zx_aload_n (pc := 11) hF d_Mod_mix_11 rfl 0 rfl ?_
  refine zg_Mod_7 (pc := 12) hF 0 rfl rfl d_Mod_mix_12 ?_
  refine zx_iload_n (pc := 15) hF d_Mod_mix_15 rfl 2 rfl ?_
  refine zx_laldn (pc := 16) hF (i := b) 1 rfl (by omega) (by omega) d_Mod_mix_16 ?_
  refine zx_ladd (pc := 17) hF d_Mod_mix_17 ?_
  refine zx_lastn (pc := 18) hF (i := a) 1 rfl (by omega) (by omega) d_Mod_mix_18 (ws' := [cO m0 11 [.int (nI bN), .int (nI sN0), .int (nI pN), .long k0, .long k1, .int now, .ref x_wd, .ref x_beg, .ref x_std, .ref x_dea, .ref x_frm, .ref x_alv, .ref x_stm, .ref x_mov, .ref x_dwn, .ref x_ctd, .ref x_cutm, .ref x_pha, .ref x_usd, .ref x_gol, .ref x_esr, .ref x_epo, .ref x_offm, .ref x_ast, .ref x_opn, .ref x_ssr, .ref x_spo, .ref x_awa, .ref x_dat, .int kpt, .ref x_hd, .int by0, .int to0, .int rep, .int had, .int ost, .int bst, .ref x_inr], cJ K x_wd 4 (vp_updL wd a ((wd a) + (wd b)))]) rfl ?_
  refine zx_aload_n (pc := 19) hF d_Mod_mix_19 rfl 0 rfl ?_
  refine zg_Mod_7 (pc := 20) hF 0 rfl rfl d_Mod_mix_20 ?_
  refine zx_iload_n (pc := 23) hF d_Mod_mix_23 rfl 2 rfl ?_
  refine zx_aload_n (pc := 24) hF d_Mod_mix_24 rfl 0 rfl ?_
  refine zg_Mod_7 (pc := 25) hF 0 rfl rfl d_Mod_mix_25 ?_
  refine zx_iload_n (pc := 28) hF d_Mod_mix_28 rfl 2 rfl ?_
  refine zx_laldn (pc := 29) hF (i := b) 1 rfl (by omega) (by omega) d_Mod_mix_29 ?_
  refine zx_iload_n (pc := 30) hF d_Mod_mix_30 rfl 3 rfl ?_
  refine zx_Sl (pc := 31) hF (As := [.long ((vp_updL wd a ((wd a) + (wd b))) b), .int (nI q)]) (rest := [.int (nI b), .ref x_wd]) (fun sz => M_Mod_turned l D K M ((vp_updL wd a ((wd a) + (wd b))) b) q (by first | assumption | omega) sz) [] rfl List.nodup_nil (as := []) rfl rfl (ws' := [cO m0 11 [.int (nI bN), .int (nI sN0), .int (nI pN), .long k0, .long k1, .int now, .ref x_wd, .ref x_beg, .ref x_std, .ref x_dea, .ref x_frm, .ref x_alv, .ref x_stm, .ref x_mov, .ref x_dwn, .ref x_ctd, .ref x_cutm, .ref x_pha, .ref x_usd, .ref x_gol, .ref x_esr, .ref x_epo, .ref x_offm, .ref x_ast, .ref x_opn, .ref x_ssr, .ref x_spo, .ref x_awa, .ref x_dat, .int kpt, .ref x_hd, .int by0, .int to0, .int rep, .int had, .int ost, .int bst, .ref x_inr], cJ K x_wd 4 (vp_updL wd a ((wd a) + (wd b)))]) rfl (cw_Mod_152 hF.2.2.2.2.1 rfl rfl ⟨by decide, by decide⟩) rfl rfl (Nat.le_of_ble_eq_true rfl) d_Mod_mix_31 ⟨Nat.zero_le _, Nat.zero_le _⟩ ?_
  refine zx_lastn (pc := 34) hF (i := b) 1 rfl (by omega) (by omega) d_Mod_mix_34 (ws' := [cO m0 11 [.int (nI bN), .int (nI sN0), .int (nI pN), .long k0, .long k1, .int now, .ref x_wd, .ref x_beg, .ref x_std, .ref x_dea, .ref x_frm, .ref x_alv, .ref x_stm, .ref x_mov, .ref x_dwn, .ref x_ctd, .ref x_cutm, .ref x_pha, .ref x_usd, .ref x_gol, .ref x_esr, .ref x_epo, .ref x_offm, .ref x_ast, .ref x_opn, .ref x_ssr, .ref x_spo, .ref x_awa, .ref x_dat, .int kpt, .ref x_hd, .int by0, .int to0, .int rep, .int had, .int ost, .int bst, .ref x_inr], cJ K x_wd 4 (vp_updL (vp_updL wd a ((wd a) + (wd b))) b (g_turn q ((vp_updL wd a ((wd a) + (wd b))) b)))]) rfl ?_
  refine zx_aload_n (pc := 35) hF d_Mod_mix_35 rfl 0 rfl ?_
  refine zg_Mod_7 (pc := 36) hF 0 rfl rfl d_Mod_mix_36 ?_
  refine zx_iload_n (pc := 39) hF d_Mod_mix_39 rfl 2 rfl ?_
  refine zx_aload_n (pc := 40) hF d_Mod_mix_40 rfl 0 rfl ?_
  refine zg_Mod_7 (pc := 41) hF 0 rfl rfl d_Mod_mix_41 ?_
  refine zx_iload_n (pc := 44) hF d_Mod_mix_44 rfl 2 rfl ?_
  refine zx_laldn (pc := 45) hF (i := b) 1 rfl (by omega) (by omega) d_Mod_mix_45 ?_
  refine zx_topl (g_turn q ((vp_updL wd a ((wd a) + (wd b))) b)) (pk_uLs) ?_
  refine zx_aload_n (pc := 46) hF d_Mod_mix_46 rfl 0 rfl ?_
  refine zg_Mod_7 (pc := 47) hF 0 rfl rfl d_Mod_mix_47 ?_
  refine zx_iload_n (pc := 50) hF d_Mod_mix_50 rfl 1 rfl ?_
  refine zx_laldn (pc := 51) hF (i := a) 1 rfl (by omega) (by omega) d_Mod_mix_51 ?_
  refine zx_lxor (pc := 52) hF d_Mod_mix_52 ?_
  refine zx_lastn (pc := 53) hF (i := b) 1 rfl (by omega) (by omega) d_Mod_mix_53 (ws' := [cO m0 11 [.int (nI bN), .int (nI sN0), .int (nI pN), .long k0, .long k1, .int now, .ref x_wd, .ref x_beg, .ref x_std, .ref x_dea, .ref x_frm, .ref x_alv, .ref x_stm, .ref x_mov, .ref x_dwn, .ref x_ctd, .ref x_cutm, .ref x_pha, .ref x_usd, .ref x_gol, .ref x_esr, .ref x_epo, .ref x_offm, .ref x_ast, .ref x_opn, .ref x_ssr, .ref x_spo, .ref x_awa, .ref x_dat, .int kpt, .ref x_hd, .int by0, .int to0, .int rep, .int had, .int ost, .int bst, .ref x_inr], cJ K x_wd 4 (vp_updL (vp_updL (vp_updL wd a ((wd a) + (wd b))) b (g_turn q ((vp_updL wd a ((wd a) + (wd b))) b))) b ((g_turn q ((vp_updL wd a ((wd a) + (wd b))) b)) ^^^ ((vp_updL (vp_updL wd a ((wd a) + (wd b))) b (g_turn q ((vp_updL wd a ((wd a) + (wd b))) b))) a)))]) rfl ?_
  refine zx_aload_n (pc := 54) hF d_Mod_mix_54 rfl 0 rfl ?_
  refine zg_Mod_7 (pc := 55) hF 0 rfl rfl d_Mod_mix_55 ?_
  refine zx_iload_n (pc := 58) hF d_Mod_mix_58 rfl 1 rfl ?_
  refine zx_aload_n (pc := 59) hF d_Mod_mix_59 rfl 0 rfl ?_
  refine zg_Mod_7 (pc := 60) hF 0 rfl rfl d_Mod_mix_60 ?_
  refine zx_iload_n (pc := 63) hF d_Mod_mix_63 rfl 1 rfl ?_
  refine zx_laldn (pc := 64) hF (i := a) 1 rfl (by omega) (by omega) d_Mod_mix_64 ?_
  refine zx_iload (pc := 65) hF d_Mod_mix_65 4 rfl ?_
  refine zx_Sl (pc := 67) hF (As := [.long ((vp_updL (vp_updL (vp_updL wd a ((wd a) + (wd b))) b (g_turn q ((vp_updL wd a ((wd a) + (wd b))) b))) b ((g_turn q ((vp_updL wd a ((wd a) + (wd b))) b)) ^^^ ((vp_updL (vp_updL wd a ((wd a) + (wd b))) b (g_turn q ((vp_updL wd a ((wd a) + (wd b))) b))) a))) a), .int (nI t)]) (rest := [.int (nI a), .ref x_wd]) (fun sz => M_Mod_turned l D K M ((vp_updL (vp_updL (vp_updL wd a ((wd a) + (wd b))) b (g_turn q ((vp_updL wd a ((wd a) + (wd b))) b))) b ((g_turn q ((vp_updL wd a ((wd a) + (wd b))) b)) ^^^ ((vp_updL (vp_updL wd a ((wd a) + (wd b))) b (g_turn q ((vp_updL wd a ((wd a) + (wd b))) b))) a))) a) t (by first | assumption | omega) sz) [] rfl List.nodup_nil (as := []) rfl rfl (ws' := [cO m0 11 [.int (nI bN), .int (nI sN0), .int (nI pN), .long k0, .long k1, .int now, .ref x_wd, .ref x_beg, .ref x_std, .ref x_dea, .ref x_frm, .ref x_alv, .ref x_stm, .ref x_mov, .ref x_dwn, .ref x_ctd, .ref x_cutm, .ref x_pha, .ref x_usd, .ref x_gol, .ref x_esr, .ref x_epo, .ref x_offm, .ref x_ast, .ref x_opn, .ref x_ssr, .ref x_spo, .ref x_awa, .ref x_dat, .int kpt, .ref x_hd, .int by0, .int to0, .int rep, .int had, .int ost, .int bst, .ref x_inr], cJ K x_wd 4 (vp_updL (vp_updL (vp_updL wd a ((wd a) + (wd b))) b (g_turn q ((vp_updL wd a ((wd a) + (wd b))) b))) b ((g_turn q ((vp_updL wd a ((wd a) + (wd b))) b)) ^^^ ((vp_updL (vp_updL wd a ((wd a) + (wd b))) b (g_turn q ((vp_updL wd a ((wd a) + (wd b))) b))) a)))]) rfl (cw_Mod_152 hF.2.2.2.2.1 rfl rfl ⟨by decide, by decide⟩) rfl rfl (Nat.le_of_ble_eq_true rfl) d_Mod_mix_67 ⟨Nat.zero_le _, Nat.zero_le _⟩ ?_
  refine zx_lastn (pc := 70) hF (i := a) 1 rfl (by omega) (by omega) d_Mod_mix_70 (ws' := [cO m0 11 [.int (nI bN), .int (nI sN0), .int (nI pN), .long k0, .long k1, .int now, .ref x_wd, .ref x_beg, .ref x_std, .ref x_dea, .ref x_frm, .ref x_alv, .ref x_stm, .ref x_mov, .ref x_dwn, .ref x_ctd, .ref x_cutm, .ref x_pha, .ref x_usd, .ref x_gol, .ref x_esr, .ref x_epo, .ref x_offm, .ref x_ast, .ref x_opn, .ref x_ssr, .ref x_spo, .ref x_awa, .ref x_dat, .int kpt, .ref x_hd, .int by0, .int to0, .int rep, .int had, .int ost, .int bst, .ref x_inr], cJ K x_wd 4 (vp_updL (vp_updL (vp_updL (vp_updL wd a ((wd a) + (wd b))) b (g_turn q ((vp_updL wd a ((wd a) + (wd b))) b))) b ((g_turn q ((vp_updL wd a ((wd a) + (wd b))) b)) ^^^ ((vp_updL (vp_updL wd a ((wd a) + (wd b))) b (g_turn q ((vp_updL wd a ((wd a) + (wd b))) b))) a))) a (g_turn t ((vp_updL (vp_updL (vp_updL wd a ((wd a) + (wd b))) b (g_turn q ((vp_updL wd a ((wd a) + (wd b))) b))) b ((g_turn q ((vp_updL wd a ((wd a) + (wd b))) b)) ^^^ ((vp_updL (vp_updL wd a ((wd a) + (wd b))) b (g_turn q ((vp_updL wd a ((wd a) + (wd b))) b))) a))) a)))]) rfl ?_
  exact zx_vret (pc := 71) hF hr hlk (by first | rfl | (simp only []; done) | (simp only [↓reduceIte]; done) | simp []) d_Mod_mix_71
set_option maxRecDepth 20000 in
theorem M_Mod_rounds (l : Launch) (D : va_G) (K : Nat → ClassId) (M : List (ClassId × FieldType)) (m0 : Nat) (bN : Nat) (sN0 : Nat) (pN : Nat) (k0 : Int64) (k1 : Int64) (now : Int32) (x_wd : Nat) (x_beg : Nat) (x_std : Nat) (x_dea : Nat) (x_frm : Nat) (x_alv : Nat) (x_stm : Nat) (x_mov : Nat) (x_dwn : Nat) (x_ctd : Nat) (x_cutm : Nat) (x_pha : Nat) (x_usd : Nat) (x_gol : Nat) (x_esr : Nat) (x_epo : Nat) (x_offm : Nat) (x_ast : Nat) (x_opn : Nat) (x_ssr : Nat) (x_spo : Nat) (x_awa : Nat) (x_dat : Nat) (kpt : Int32) (x_hd : Nat) (by0 : Int32) (to0 : Int32) (rep : Int32) (had : Int32) (ost : Int32) (bst : Int32) (x_inr : Nat) (wd : Nat → Int64) (t : Nat) (ht : t < 100) (sz : Nat) : zM l y_Mod_rounds (zT y_Mod_rounds b_Mod_rounds 3 none) (zR 2 49) 0 0 D K M [.ref m0, .int (nI t)] [cO m0 11 [.int (nI bN), .int (nI sN0), .int (nI pN), .long k0, .long k1, .int now, .ref x_wd, .ref x_beg, .ref x_std, .ref x_dea, .ref x_frm, .ref x_alv, .ref x_stm, .ref x_mov, .ref x_dwn, .ref x_ctd, .ref x_cutm, .ref x_pha, .ref x_usd, .ref x_gol, .ref x_esr, .ref x_epo, .ref x_offm, .ref x_ast, .ref x_opn, .ref x_ssr, .ref x_spo, .ref x_awa, .ref x_dat, .int kpt, .ref x_hd, .int by0, .int to0, .int rep, .int had, .int ost, .int bst, .ref x_inr], cJ K x_wd 4 wd] sz (zQv D K M [cO m0 11 [.int (nI bN), .int (nI sN0), .int (nI pN), .long k0, .long k1, .int now, .ref x_wd, .ref x_beg, .ref x_std, .ref x_dea, .ref x_frm, .ref x_alv, .ref x_stm, .ref x_mov, .ref x_dwn, .ref x_ctd, .ref x_cutm, .ref x_pha, .ref x_usd, .ref x_gol, .ref x_esr, .ref x_epo, .ref x_offm, .ref x_ast, .ref x_opn, .ref x_ssr, .ref x_spo, .ref x_awa, .ref x_dat, .int kpt, .ref x_hd, .int by0, .int to0, .int rep, .int had, .int ost, .int bst, .ref x_inr], cJ K x_wd 4 (g_iter t wd)]) := by
  refine zx_head (by decide) (Nat.le_of_ble_eq_true rfl) ?_
  intro _ _ _ _ _ _ _ _ _ hF hr hlk hnm
  refine zx_iconst (pc := 0) hF d_Mod_rounds_0 k_i0 ?_
  refine zx_istore_n (pc := 1) hF (lv' := [(2, .int 0), (0, .ref m0), (1, .int (nI t))]) d_Mod_rounds_1 rfl (by decide) rfl ?_
  refine zx_lv [1, 2, 0] (lv' := [(0, .ref m0), (1, .int (nI t)), (2, .int 0)]) rfl ?_
  refine zx_loop (pc := 2) (σ := Nat × (Nat → Int64)) (fun k zv => (zv.1 + k = t) ∧ (g_iter k zv.2 = g_iter t wd)) (fun zv => [cO m0 11 [.int (nI bN), .int (nI sN0), .int (nI pN), .long k0, .long k1, .int now, .ref x_wd, .ref x_beg, .ref x_std, .ref x_dea, .ref x_frm, .ref x_alv, .ref x_stm, .ref x_mov, .ref x_dwn, .ref x_ctd, .ref x_cutm, .ref x_pha, .ref x_usd, .ref x_gol, .ref x_esr, .ref x_epo, .ref x_offm, .ref x_ast, .ref x_opn, .ref x_ssr, .ref x_spo, .ref x_awa, .ref x_dat, .int kpt, .ref x_hd, .int by0, .int to0, .int rep, .int had, .int ost, .int bst, .ref x_inr], cJ K x_wd 4 zv.2]) (fun zv => [(0, .ref m0), (1, .int (nI t)), (2, .int (nI zv.1))]) t (0, wd) ⟨by first | omega | (dsimp only; omega) | dsimp only, rfl⟩ rfl rfl ?_
  intro k zv hI ih
  obtain ⟨j, w'⟩ := zv
  obtain ⟨hk, hX⟩ := hI
  replace hk : j + k = t := hk
  replace hX : g_iter k w' = g_iter t wd := hX
  refine zx_eq (ws' := [cO m0 11 [.int (nI bN), .int (nI sN0), .int (nI pN), .long k0, .long k1, .int now, .ref x_wd, .ref x_beg, .ref x_std, .ref x_dea, .ref x_frm, .ref x_alv, .ref x_stm, .ref x_mov, .ref x_dwn, .ref x_ctd, .ref x_cutm, .ref x_pha, .ref x_usd, .ref x_gol, .ref x_esr, .ref x_epo, .ref x_offm, .ref x_ast, .ref x_opn, .ref x_ssr, .ref x_spo, .ref x_awa, .ref x_dat, .int kpt, .ref x_hd, .int by0, .int to0, .int rep, .int had, .int ost, .int bst, .ref x_inr], cJ K x_wd 4 w']) (lv' := [(0, .ref m0), (1, .int (nI t)), (2, .int (nI j))]) rfl rfl rfl ?_
  refine zx_iload_n (pc := 2) hF d_Mod_rounds_2 rfl 2 rfl ?_
  refine zx_iload_n (pc := 3) hF d_Mod_rounds_3 rfl 1 rfl ?_
  refine zx_icmp_ge (pc := 4) hF d_Mod_rounds_4 (tgt := 51) rfl (fun h4 => ?_) (fun h4 => ?_)
  · replace h4 : t ≤ j := (nI_leI (a := t) (b := j) (by omega) (by omega)).mp h4
    exact zx_vret (pc := 51) hF hr hlk (by obtain rfl : k = 0 := (by omega); rw [← hX]; rfl) d_Mod_rounds_51
  · replace h4 : ¬ t ≤ j := fun z => h4 ((nI_leI (a := t) (b := j) (by omega) (by omega)).mpr z)
    refine zx_aload_n (pc := 7) hF d_Mod_rounds_7 rfl 0 rfl ?_
    refine zx_iconst (pc := 8) hF d_Mod_rounds_8 k_i0 ?_
    refine zx_iconst (pc := 9) hF d_Mod_rounds_9 k_i1 ?_
    refine zx_bipush (pc := 10) hF d_Mod_rounds_10 k_b13 ?_
    refine zx_bipush (pc := 12) hF d_Mod_rounds_12 k_b32 ?_
    refine zx_Vv (pc := 14) hF (As := [.int 0, .int 1, .int 13, .int 32]) (rest := []) (fun sz => M_Mod_mix l D K M m0 bN sN0 pN k0 k1 now x_wd x_beg x_std x_dea x_frm x_alv x_stm x_mov x_dwn x_ctd x_cutm x_pha x_usd x_gol x_esr x_epo x_offm x_ast x_opn x_ssr x_spo x_awa x_dat kpt x_hd by0 to0 rep had ost bst x_inr w' 0 1 13 32 (by first | assumption | omega) (by first | assumption | omega) (by first | assumption | omega) (by first | assumption | omega) sz) [0, 1] rfl (by decide) (as := [m0, x_wd]) rfl rfl (ws' := [cO m0 11 [.int (nI bN), .int (nI sN0), .int (nI pN), .long k0, .long k1, .int now, .ref x_wd, .ref x_beg, .ref x_std, .ref x_dea, .ref x_frm, .ref x_alv, .ref x_stm, .ref x_mov, .ref x_dwn, .ref x_ctd, .ref x_cutm, .ref x_pha, .ref x_usd, .ref x_gol, .ref x_esr, .ref x_epo, .ref x_offm, .ref x_ast, .ref x_opn, .ref x_ssr, .ref x_spo, .ref x_awa, .ref x_dat, .int kpt, .ref x_hd, .int by0, .int to0, .int rep, .int had, .int ost, .int bst, .ref x_inr], cJ K x_wd 4 (g_mix 0 1 13 32 w')]) rfl 0 11 rfl rfl rfl (cw_Mod_156 hF.2.2.2.2.1 rfl rfl ⟨by decide, by decide⟩) rfl rfl (Nat.le_of_ble_eq_true rfl) d_Mod_rounds_14 ⟨Nat.zero_le _, Nat.zero_le _⟩ ?_
    refine zx_aload_n (pc := 17) hF d_Mod_rounds_17 rfl 0 rfl ?_
    refine zx_iconst (pc := 18) hF d_Mod_rounds_18 k_i2 ?_
    refine zx_iconst (pc := 19) hF d_Mod_rounds_19 k_i3 ?_
    refine zx_bipush (pc := 20) hF d_Mod_rounds_20 k_b16 ?_
    refine zx_iconst (pc := 22) hF d_Mod_rounds_22 k_i0 ?_
    refine zx_Vv (pc := 23) hF (As := [.int 2, .int 3, .int 16, .int 0]) (rest := []) (fun sz => M_Mod_mix l D K M m0 bN sN0 pN k0 k1 now x_wd x_beg x_std x_dea x_frm x_alv x_stm x_mov x_dwn x_ctd x_cutm x_pha x_usd x_gol x_esr x_epo x_offm x_ast x_opn x_ssr x_spo x_awa x_dat kpt x_hd by0 to0 rep had ost bst x_inr (g_mix 0 1 13 32 w') 2 3 16 0 (by first | assumption | omega) (by first | assumption | omega) (by first | assumption | omega) (by first | assumption | omega) sz) [0, 1] rfl (by decide) (as := [m0, x_wd]) rfl rfl (ws' := [cO m0 11 [.int (nI bN), .int (nI sN0), .int (nI pN), .long k0, .long k1, .int now, .ref x_wd, .ref x_beg, .ref x_std, .ref x_dea, .ref x_frm, .ref x_alv, .ref x_stm, .ref x_mov, .ref x_dwn, .ref x_ctd, .ref x_cutm, .ref x_pha, .ref x_usd, .ref x_gol, .ref x_esr, .ref x_epo, .ref x_offm, .ref x_ast, .ref x_opn, .ref x_ssr, .ref x_spo, .ref x_awa, .ref x_dat, .int kpt, .ref x_hd, .int by0, .int to0, .int rep, .int had, .int ost, .int bst, .ref x_inr], cJ K x_wd 4 (g_mix 2 3 16 0 (g_mix 0 1 13 32 w'))]) rfl 0 11 rfl rfl rfl (cw_Mod_156 hF.2.2.2.2.1 rfl rfl ⟨by decide, by decide⟩) rfl rfl (Nat.le_of_ble_eq_true rfl) d_Mod_rounds_23 ⟨Nat.zero_le _, Nat.zero_le _⟩ ?_
    refine zx_aload_n (pc := 26) hF d_Mod_rounds_26 rfl 0 rfl ?_
    refine zx_iconst (pc := 27) hF d_Mod_rounds_27 k_i0 ?_
    refine zx_iconst (pc := 28) hF d_Mod_rounds_28 k_i3 ?_
    refine zx_bipush (pc := 29) hF d_Mod_rounds_29 k_b21 ?_
    refine zx_iconst (pc := 31) hF d_Mod_rounds_31 k_i0 ?_
    refine zx_Vv (pc := 32) hF (As := [.int 0, .int 3, .int 21, .int 0]) (rest := []) (fun sz => M_Mod_mix l D K M m0 bN sN0 pN k0 k1 now x_wd x_beg x_std x_dea x_frm x_alv x_stm x_mov x_dwn x_ctd x_cutm x_pha x_usd x_gol x_esr x_epo x_offm x_ast x_opn x_ssr x_spo x_awa x_dat kpt x_hd by0 to0 rep had ost bst x_inr (g_mix 2 3 16 0 (g_mix 0 1 13 32 w')) 0 3 21 0 (by first | assumption | omega) (by first | assumption | omega) (by first | assumption | omega) (by first | assumption | omega) sz) [0, 1] rfl (by decide) (as := [m0, x_wd]) rfl rfl (ws' := [cO m0 11 [.int (nI bN), .int (nI sN0), .int (nI pN), .long k0, .long k1, .int now, .ref x_wd, .ref x_beg, .ref x_std, .ref x_dea, .ref x_frm, .ref x_alv, .ref x_stm, .ref x_mov, .ref x_dwn, .ref x_ctd, .ref x_cutm, .ref x_pha, .ref x_usd, .ref x_gol, .ref x_esr, .ref x_epo, .ref x_offm, .ref x_ast, .ref x_opn, .ref x_ssr, .ref x_spo, .ref x_awa, .ref x_dat, .int kpt, .ref x_hd, .int by0, .int to0, .int rep, .int had, .int ost, .int bst, .ref x_inr], cJ K x_wd 4 (g_mix 0 3 21 0 (g_mix 2 3 16 0 (g_mix 0 1 13 32 w')))]) rfl 0 11 rfl rfl rfl (cw_Mod_156 hF.2.2.2.2.1 rfl rfl ⟨by decide, by decide⟩) rfl rfl (Nat.le_of_ble_eq_true rfl) d_Mod_rounds_32 ⟨Nat.zero_le _, Nat.zero_le _⟩ ?_
    refine zx_aload_n (pc := 35) hF d_Mod_rounds_35 rfl 0 rfl ?_
    refine zx_iconst (pc := 36) hF d_Mod_rounds_36 k_i2 ?_
    refine zx_iconst (pc := 37) hF d_Mod_rounds_37 k_i1 ?_
    refine zx_bipush (pc := 38) hF d_Mod_rounds_38 k_b17 ?_
    refine zx_bipush (pc := 40) hF d_Mod_rounds_40 k_b32 ?_
    refine zx_Vv (pc := 42) hF (As := [.int 2, .int 1, .int 17, .int 32]) (rest := []) (fun sz => M_Mod_mix l D K M m0 bN sN0 pN k0 k1 now x_wd x_beg x_std x_dea x_frm x_alv x_stm x_mov x_dwn x_ctd x_cutm x_pha x_usd x_gol x_esr x_epo x_offm x_ast x_opn x_ssr x_spo x_awa x_dat kpt x_hd by0 to0 rep had ost bst x_inr (g_mix 0 3 21 0 (g_mix 2 3 16 0 (g_mix 0 1 13 32 w'))) 2 1 17 32 (by first | assumption | omega) (by first | assumption | omega) (by first | assumption | omega) (by first | assumption | omega) sz) [0, 1] rfl (by decide) (as := [m0, x_wd]) rfl rfl (ws' := [cO m0 11 [.int (nI bN), .int (nI sN0), .int (nI pN), .long k0, .long k1, .int now, .ref x_wd, .ref x_beg, .ref x_std, .ref x_dea, .ref x_frm, .ref x_alv, .ref x_stm, .ref x_mov, .ref x_dwn, .ref x_ctd, .ref x_cutm, .ref x_pha, .ref x_usd, .ref x_gol, .ref x_esr, .ref x_epo, .ref x_offm, .ref x_ast, .ref x_opn, .ref x_ssr, .ref x_spo, .ref x_awa, .ref x_dat, .int kpt, .ref x_hd, .int by0, .int to0, .int rep, .int had, .int ost, .int bst, .ref x_inr], cJ K x_wd 4 (g_mix 2 1 17 32 (g_mix 0 3 21 0 (g_mix 2 3 16 0 (g_mix 0 1 13 32 w'))))]) rfl 0 11 rfl rfl rfl (cw_Mod_156 hF.2.2.2.2.1 rfl rfl ⟨by decide, by decide⟩) rfl rfl (Nat.le_of_ble_eq_true rfl) d_Mod_rounds_42 ⟨Nat.zero_le _, Nat.zero_le _⟩ ?_
    refine zx_iinc (pc := 45) hF (v := nI (j + 1)) (lv' := [(2, .int (nI (j + 1))), (0, .ref m0), (1, .int (nI t))]) d_Mod_rounds_45 2 rfl (zinc j) (by decide) rfl ?_
    refine zx_goto (pc := 48) hF d_Mod_rounds_48 (tgt := 2) rfl ?_
    refine zx_lv [1, 2, 0] (lv' := [(0, .ref m0), (1, .int (nI t)), (2, .int (nI (j + 1)))]) rfl ?_
    exact ih (k - 1) (j + 1, g_mix 2 1 17 32 (g_mix 0 3 21 0 (g_mix 2 3 16 0 (g_mix 0 1 13 32 w')))) (by omega) ⟨by first | omega | (dsimp only; omega) | dsimp only, by obtain ⟨k', rfl⟩ : ∃ k', k = k' + 1 := ⟨k - 1, by omega⟩; exact hX⟩
