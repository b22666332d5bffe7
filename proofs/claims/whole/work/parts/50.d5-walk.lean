set_option maxRecDepth 20000 in
theorem M_Mod_ask (l : Launch) (D : va_G) (K : Nat → ClassId) (M : List (ClassId × FieldType)) (m0 : Nat) (bN : Nat) (sN0 : Nat) (pN : Nat) (k0 : Int64) (k1 : Int64) (now : Int32) (x_wd : Nat) (x_beg : Nat) (x_std : Nat) (x_dea : Nat) (x_frm : Nat) (x_alv : Nat) (x_stm : Nat) (x_mov : Nat) (x_dwn : Nat) (x_ctd : Nat) (x_cutm : Nat) (x_pha : Nat) (x_usd : Nat) (x_gol : Nat) (x_esr : Nat) (x_epo : Nat) (x_offm : Nat) (x_ast : Nat) (x_opn : Nat) (x_ssr : Nat) (x_spo : Nat) (x_awa : Nat) (x_dat : Nat) (kpt : Int32) (x_hd : Nat) (by0 : Int32) (to0 : Int32) (rep : Int32) (had : Int32) (ost : Int32) (bst : Int32) (x_inr : Nat) (offm : Nat → Int32) (cutm : Nat → Int32) (dwn : Nat → Int32) (ctd : Nat → Int32) (b : Nat) (q : Nat) (hB : bN ≤ 4) (hS : 0 < sN0 ∧ sN0 ≤ 8) (hb : b < bN) (hq : q < sN0) (sz : Nat) : zM l y_Mod_ask (zT y_Mod_ask b_Mod_ask 5 (some .boolean)) (zR 1 22) 0 0 D K M [.ref m0, .int (nI b), .int (nI q)] [cO m0 11 [.int (nI bN), .int (nI sN0), .int (nI pN), .long k0, .long k1, .int now, .ref x_wd, .ref x_beg, .ref x_std, .ref x_dea, .ref x_frm, .ref x_alv, .ref x_stm, .ref x_mov, .ref x_dwn, .ref x_ctd, .ref x_cutm, .ref x_pha, .ref x_usd, .ref x_gol, .ref x_esr, .ref x_epo, .ref x_offm, .ref x_ast, .ref x_opn, .ref x_ssr, .ref x_spo, .ref x_awa, .ref x_dat, .int kpt, .ref x_hd, .int by0, .int to0, .int rep, .int had, .int ost, .int bst, .ref x_inr], cZ K x_offm 8 offm, cZ K x_cutm 32 cutm, cZ K x_dwn 32 dwn, cI K x_ctd 32 ctd] sz (zQi D K M (g_ar ctd dwn (8 * b + q) (g_meets offm cutm b q)) [cO m0 11 [.int (nI bN), .int (nI sN0), .int (nI pN), .long k0, .long k1, .int now, .ref x_wd, .ref x_beg, .ref x_std, .ref x_dea, .ref x_frm, .ref x_alv, .ref x_stm, .ref x_mov, .ref x_dwn, .ref x_ctd, .ref x_cutm, .ref x_pha, .ref x_usd, .ref x_gol, .ref x_esr, .ref x_epo, .ref x_offm, .ref x_ast, .ref x_opn, .ref x_ssr, .ref x_spo, .ref x_awa, .ref x_dat, .int kpt, .ref x_hd, .int by0, .int to0, .int rep, .int had, .int ost, .int bst, .ref x_inr], cZ K x_offm 8 offm, cZ K x_cutm 32 cutm, cZ K x_dwn 32 (g_ad ctd dwn (8 * b + q) (g_meets offm cutm b q)), cI K x_ctd 32 (g_at ctd dwn (8 * b + q) (g_meets offm cutm b q))]) := by
  refine zx_head (by decide) (Nat.le_of_ble_eq_true rfl) ?_
  intro _ _ _ _ _ _ _ _ _ hF hr hlk hnm
  refine zx_bipush (pc := 0) hF d_Mod_ask_0 k_b8 ?_
  refine zx_iload_n (pc := 2) hF d_Mod_ask_2 rfl 1 rfl ?_
  refine zx_imul (pc := 3) hF d_Mod_ask_3 ?_
  refine zx_topi (nI (8 * b)) (pk_mul 8 b) ?_
  refine zx_iload_n (pc := 4) hF d_Mod_ask_4 rfl 2 rfl ?_
  refine zx_iadd (pc := 5) hF d_Mod_ask_5 ?_
  refine zx_topi (nI ((8 * b) + q)) (nI_add (8 * b) q) ?_
  refine zx_istore_n (pc := 6) hF (lv' := [(3, .int (nI ((8 * b) + q))), (0, .ref m0), (1, .int (nI b)), (2, .int (nI q))]) d_Mod_ask_6 rfl (by decide) rfl ?_
  refine zx_aload_n (pc := 7) hF d_Mod_ask_7 rfl 1 rfl ?_
  refine zx_iload_n (pc := 8) hF d_Mod_ask_8 rfl 2 rfl ?_
  refine zx_iload_n (pc := 9) hF d_Mod_ask_9 rfl 3 rfl ?_
  refine zx_Vi (pc := 10) hF (As := [.int (nI b), .int (nI q)]) (rest := []) (fun sz => M_Mod_meets l D K M m0 bN sN0 pN k0 k1 now x_wd x_beg x_std x_dea x_frm x_alv x_stm x_mov x_dwn x_ctd x_cutm x_pha x_usd x_gol x_esr x_epo x_offm x_ast x_opn x_ssr x_spo x_awa x_dat kpt x_hd by0 to0 rep had ost bst x_inr offm cutm b q (by first | assumption | omega) (by first | assumption | omega) (by first | assumption | omega) (by first | assumption | omega) sz) [0, 1, 2] rfl (by decide) (as := [m0, x_offm, x_cutm]) rfl rfl (ws' := [cO m0 11 [.int (nI bN), .int (nI sN0), .int (nI pN), .long k0, .long k1, .int now, .ref x_wd, .ref x_beg, .ref x_std, .ref x_dea, .ref x_frm, .ref x_alv, .ref x_stm, .ref x_mov, .ref x_dwn, .ref x_ctd, .ref x_cutm, .ref x_pha, .ref x_usd, .ref x_gol, .ref x_esr, .ref x_epo, .ref x_offm, .ref x_ast, .ref x_opn, .ref x_ssr, .ref x_spo, .ref x_awa, .ref x_dat, .int kpt, .ref x_hd, .int by0, .int to0, .int rep, .int had, .int ost, .int bst, .ref x_inr], cZ K x_offm 8 offm, cZ K x_cutm 32 cutm, cZ K x_dwn 32 dwn, cI K x_ctd 32 ctd]) rfl 0 11 rfl rfl rfl (cw_Mod_195 hF.2.2.2.2.1 rfl rfl ⟨by decide, by decide⟩) rfl rfl (Nat.le_of_ble_eq_true rfl) d_Mod_ask_10 ⟨Nat.zero_le _, Nat.zero_le _⟩ ?_
  refine zx_istore (pc := 13) hF (lv' := [(4, .int (g_meets offm cutm b q)), (3, .int (nI ((8 * b) + q))), (0, .ref m0), (1, .int (nI b)), (2, .int (nI q))]) d_Mod_ask_13 (by decide) rfl ?_
  refine zx_aload_n (pc := 15) hF d_Mod_ask_15 rfl 2 rfl ?_
  refine zg_Mod_39 (pc := 16) hF 0 rfl rfl d_Mod_ask_16 ?_
  refine zx_iload_n (pc := 19) hF d_Mod_ask_19 rfl 1 rfl ?_
  refine zx_iload (pc := 20) hF d_Mod_ask_20 0 rfl ?_
  refine zx_aload_n (pc := 22) hF d_Mod_ask_22 rfl 2 rfl ?_
  refine zg_Mod_36 (pc := 23) hF 0 rfl rfl d_Mod_ask_23 ?_
  refine zx_iload_n (pc := 26) hF d_Mod_ask_26 rfl 1 rfl ?_
  refine zx_zaldn (pc := 27) hF (i := (8 * b) + q) 3 rfl (by omega) (by omega) d_Mod_ask_27 ?_
  refine zx_icmp_ne (pc := 28) hF d_Mod_ask_28 (tgt := 42) rfl (fun h28 => ?_) (fun h28 => ?_)
  · refine zx_iconst (pc := 42) hF d_Mod_ask_42 k_i0 ?_
    refine zx_iastn (pc := 43) hF (i := (8 * b) + q) 4 rfl (by omega) (by omega) d_Mod_ask_43 (ws' := [cO m0 11 [.int (nI bN), .int (nI sN0), .int (nI pN), .long k0, .long k1, .int now, .ref x_wd, .ref x_beg, .ref x_std, .ref x_dea, .ref x_frm, .ref x_alv, .ref x_stm, .ref x_mov, .ref x_dwn, .ref x_ctd, .ref x_cutm, .ref x_pha, .ref x_usd, .ref x_gol, .ref x_esr, .ref x_epo, .ref x_offm, .ref x_ast, .ref x_opn, .ref x_ssr, .ref x_spo, .ref x_awa, .ref x_dat, .int kpt, .ref x_hd, .int by0, .int to0, .int rep, .int had, .int ost, .int bst, .ref x_inr], cZ K x_offm 8 offm, cZ K x_cutm 32 cutm, cZ K x_dwn 32 dwn, cI K x_ctd 32 (upd ctd ((8 * b) + q) 0)]) rfl ?_
    refine zx_aload_n (pc := 44) hF d_Mod_ask_44 rfl 2 rfl ?_
    refine zg_Mod_39 (pc := 45) hF 0 rfl rfl d_Mod_ask_45 ?_
    refine zx_iload_n (pc := 48) hF d_Mod_ask_48 rfl 1 rfl ?_
    refine zx_ialdn (pc := 49) hF (i := (8 * b) + q) 4 rfl (by omega) (by omega) d_Mod_ask_49 ?_
    refine zx_topi 0 (pk_us) ?_
    refine zx_iconst (pc := 50) hF d_Mod_ask_50 k_i3 ?_
    refine zx_icmp_ge (pc := 51) hF d_Mod_ask_51 (tgt := 56) rfl (fun h51 => ?_) (fun h51 => ?_)
    · exact absurd h51 (by decide)
    · refine zx_iconst (pc := 54) hF d_Mod_ask_54 k_i0 ?_
      exact zx_zret (pc := 55) hF hr hlk rfl (by first | with_reducible rfl | (simp only [g_ar, g_at, g_ad, g_ac, pk_us, if_neg h28]; done) | (simp only [g_ar, g_at, g_ad, g_ac, pk_us, h28, ↓reduceIte]; done) | simp [g_ar, g_at, g_ad, g_ac, pk_us, h28]) (by first | with_reducible rfl | (simp only [g_ar, g_at, g_ad, g_ac, pk_us, if_neg h28]; done) | (simp only [g_ar, g_at, g_ad, g_ac, pk_us, h28, ↓reduceIte]; done) | simp [g_ar, g_at, g_ad, g_ac, pk_us, h28]) d_Mod_ask_55
  · refine zx_aload_n (pc := 31) hF d_Mod_ask_31 rfl 2 rfl ?_
    refine zg_Mod_39 (pc := 32) hF 0 rfl rfl d_Mod_ask_32 ?_
    refine zx_iload_n (pc := 35) hF d_Mod_ask_35 rfl 1 rfl ?_
    refine zx_ialdn (pc := 36) hF (i := (8 * b) + q) 4 rfl (by omega) (by omega) d_Mod_ask_36 ?_
    refine zx_iconst (pc := 37) hF d_Mod_ask_37 k_i1 ?_
    refine zx_iadd (pc := 38) hF d_Mod_ask_38 ?_
    refine zx_goto (pc := 39) hF d_Mod_ask_39 (tgt := 43) rfl ?_
    refine zx_iastn (pc := 43) hF (i := (8 * b) + q) 4 rfl (by omega) (by omega) d_Mod_ask_43 (ws' := [cO m0 11 [.int (nI bN), .int (nI sN0), .int (nI pN), .long k0, .long k1, .int now, .ref x_wd, .ref x_beg, .ref x_std, .ref x_dea, .ref x_frm, .ref x_alv, .ref x_stm, .ref x_mov, .ref x_dwn, .ref x_ctd, .ref x_cutm, .ref x_pha, .ref x_usd, .ref x_gol, .ref x_esr, .ref x_epo, .ref x_offm, .ref x_ast, .ref x_opn, .ref x_ssr, .ref x_spo, .ref x_awa, .ref x_dat, .int kpt, .ref x_hd, .int by0, .int to0, .int rep, .int had, .int ost, .int bst, .ref x_inr], cZ K x_offm 8 offm, cZ K x_cutm 32 cutm, cZ K x_dwn 32 dwn, cI K x_ctd 32 (upd ctd ((8 * b) + q) ((ctd ((8 * b) + q)) + 1))]) rfl ?_
    refine zx_aload_n (pc := 44) hF d_Mod_ask_44 rfl 2 rfl ?_
    refine zg_Mod_39 (pc := 45) hF 0 rfl rfl d_Mod_ask_45 ?_
    refine zx_iload_n (pc := 48) hF d_Mod_ask_48 rfl 1 rfl ?_
    refine zx_ialdn (pc := 49) hF (i := (8 * b) + q) 4 rfl (by omega) (by omega) d_Mod_ask_49 ?_
    refine zx_topi ((ctd ((8 * b) + q)) + 1) (pk_us) ?_
    refine zx_iconst (pc := 50) hF d_Mod_ask_50 k_i3 ?_
    refine zx_icmp_ge (pc := 51) hF d_Mod_ask_51 (tgt := 56) rfl (fun h51 => ?_) (fun h51 => ?_)
    · refine zx_aload_n (pc := 56) hF d_Mod_ask_56 rfl 2 rfl ?_
      refine zg_Mod_39 (pc := 57) hF 0 rfl rfl d_Mod_ask_57 ?_
      refine zx_iload_n (pc := 60) hF d_Mod_ask_60 rfl 1 rfl ?_
      refine zx_iconst (pc := 61) hF d_Mod_ask_61 k_i0 ?_
      refine zx_iastn (pc := 62) hF (i := (8 * b) + q) 4 rfl (by omega) (by omega) d_Mod_ask_62 (ws' := [cO m0 11 [.int (nI bN), .int (nI sN0), .int (nI pN), .long k0, .long k1, .int now, .ref x_wd, .ref x_beg, .ref x_std, .ref x_dea, .ref x_frm, .ref x_alv, .ref x_stm, .ref x_mov, .ref x_dwn, .ref x_ctd, .ref x_cutm, .ref x_pha, .ref x_usd, .ref x_gol, .ref x_esr, .ref x_epo, .ref x_offm, .ref x_ast, .ref x_opn, .ref x_ssr, .ref x_spo, .ref x_awa, .ref x_dat, .int kpt, .ref x_hd, .int by0, .int to0, .int rep, .int had, .int ost, .int bst, .ref x_inr], cZ K x_offm 8 offm, cZ K x_cutm 32 cutm, cZ K x_dwn 32 dwn, cI K x_ctd 32 (upd (upd ctd ((8 * b) + q) ((ctd ((8 * b) + q)) + 1)) ((8 * b) + q) 0)]) rfl ?_
      refine zx_aload_n (pc := 63) hF d_Mod_ask_63 rfl 2 rfl ?_
      refine zg_Mod_36 (pc := 64) hF 0 rfl rfl d_Mod_ask_64 ?_
      refine zx_iload_n (pc := 67) hF d_Mod_ask_67 rfl 1 rfl ?_
      refine zx_aload_n (pc := 68) hF d_Mod_ask_68 rfl 2 rfl ?_
      refine zg_Mod_36 (pc := 69) hF 0 rfl rfl d_Mod_ask_69 ?_
      refine zx_iload_n (pc := 72) hF d_Mod_ask_72 rfl 1 rfl ?_
      refine zx_zaldn (pc := 73) hF (i := (8 * b) + q) 3 rfl (by omega) (by omega) d_Mod_ask_73 ?_
      refine zx_if_ne (pc := 74) hF d_Mod_ask_74 (tgt := 81) rfl (fun h74 => ?_) (fun h74 => ?_)
      · refine zx_iconst (pc := 81) hF d_Mod_ask_81 k_i0 ?_
        refine zx_zastn (pc := 82) hF (i := (8 * b) + q) 3 rfl (by omega) (by omega) rfl d_Mod_ask_82 (ws' := [cO m0 11 [.int (nI bN), .int (nI sN0), .int (nI pN), .long k0, .long k1, .int now, .ref x_wd, .ref x_beg, .ref x_std, .ref x_dea, .ref x_frm, .ref x_alv, .ref x_stm, .ref x_mov, .ref x_dwn, .ref x_ctd, .ref x_cutm, .ref x_pha, .ref x_usd, .ref x_gol, .ref x_esr, .ref x_epo, .ref x_offm, .ref x_ast, .ref x_opn, .ref x_ssr, .ref x_spo, .ref x_awa, .ref x_dat, .int kpt, .ref x_hd, .int by0, .int to0, .int rep, .int had, .int ost, .int bst, .ref x_inr], cZ K x_offm 8 offm, cZ K x_cutm 32 cutm, cZ K x_dwn 32 (upd dwn ((8 * b) + q) 0), cI K x_ctd 32 (upd (upd ctd ((8 * b) + q) ((ctd ((8 * b) + q)) + 1)) ((8 * b) + q) 0)]) rfl ?_
        refine zx_iconst (pc := 83) hF d_Mod_ask_83 k_i1 ?_
        exact zx_zret (pc := 84) hF hr hlk rfl (by first | with_reducible rfl | (simp only [g_ar, g_at, g_ad, g_ac, pk_us, if_pos h28, if_pos h51, if_neg h74]; done) | (simp only [g_ar, g_at, g_ad, g_ac, pk_us, h28, h51, h74, ↓reduceIte]; done) | simp [g_ar, g_at, g_ad, g_ac, pk_us, h28, h51, h74]) (by first | with_reducible rfl | (simp only [g_ar, g_at, g_ad, g_ac, pk_us, if_pos h28, if_pos h51, if_neg h74]; done) | (simp only [g_ar, g_at, g_ad, g_ac, pk_us, h28, h51, h74, ↓reduceIte]; done) | simp [g_ar, g_at, g_ad, g_ac, pk_us, h28, h51, h74]) d_Mod_ask_84
      · refine zx_iconst (pc := 77) hF d_Mod_ask_77 k_i1 ?_
        refine zx_goto (pc := 78) hF d_Mod_ask_78 (tgt := 82) rfl ?_
        refine zx_zastn (pc := 82) hF (i := (8 * b) + q) 3 rfl (by omega) (by omega) rfl d_Mod_ask_82 (ws' := [cO m0 11 [.int (nI bN), .int (nI sN0), .int (nI pN), .long k0, .long k1, .int now, .ref x_wd, .ref x_beg, .ref x_std, .ref x_dea, .ref x_frm, .ref x_alv, .ref x_stm, .ref x_mov, .ref x_dwn, .ref x_ctd, .ref x_cutm, .ref x_pha, .ref x_usd, .ref x_gol, .ref x_esr, .ref x_epo, .ref x_offm, .ref x_ast, .ref x_opn, .ref x_ssr, .ref x_spo, .ref x_awa, .ref x_dat, .int kpt, .ref x_hd, .int by0, .int to0, .int rep, .int had, .int ost, .int bst, .ref x_inr], cZ K x_offm 8 offm, cZ K x_cutm 32 cutm, cZ K x_dwn 32 (upd dwn ((8 * b) + q) 1), cI K x_ctd 32 (upd (upd ctd ((8 * b) + q) ((ctd ((8 * b) + q)) + 1)) ((8 * b) + q) 0)]) rfl ?_
        refine zx_iconst (pc := 83) hF d_Mod_ask_83 k_i1 ?_
        exact zx_zret (pc := 84) hF hr hlk rfl (by first | with_reducible rfl | (simp only [g_ar, g_at, g_ad, g_ac, pk_us, if_pos h28, if_pos h51, if_pos h74]; done) | (simp only [g_ar, g_at, g_ad, g_ac, pk_us, h28, h51, h74, ↓reduceIte]; done) | simp [g_ar, g_at, g_ad, g_ac, pk_us, h28, h51, h74]) (by first | with_reducible rfl | (simp only [g_ar, g_at, g_ad, g_ac, pk_us, if_pos h28, if_pos h51, if_pos h74]; done) | (simp only [g_ar, g_at, g_ad, g_ac, pk_us, h28, h51, h74, ↓reduceIte]; done) | simp [g_ar, g_at, g_ad, g_ac, pk_us, h28, h51, h74]) d_Mod_ask_84
    · refine zx_iconst (pc := 54) hF d_Mod_ask_54 k_i0 ?_
      exact zx_zret (pc := 55) hF hr hlk rfl (by first | with_reducible rfl | (simp only [g_ar, g_at, g_ad, g_ac, pk_us, if_pos h28, if_neg h51]; done) | (simp only [g_ar, g_at, g_ad, g_ac, pk_us, h28, h51, ↓reduceIte]; done) | simp [g_ar, g_at, g_ad, g_ac, pk_us, h28, h51]) (by first | with_reducible rfl | (simp only [g_ar, g_at, g_ad, g_ac, pk_us, if_pos h28, if_neg h51]; done) | (simp only [g_ar, g_at, g_ad, g_ac, pk_us, h28, h51, ↓reduceIte]; done) | simp [g_ar, g_at, g_ad, g_ac, pk_us, h28, h51]) d_Mod_ask_55
