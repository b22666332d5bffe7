set_option maxRecDepth 20000 in
theorem M_Mod_note (l : Launch) (D : va_G) (K : Nat → ClassId) (M : List (ClassId × FieldType)) (m0 : Nat) (bN : Nat) (sN0 : Nat) (pN : Nat) (k0 : Int64) (k1 : Int64) (now : Int32) (x_wd : Nat) (x_beg : Nat) (x_std : Nat) (x_dea : Nat) (x_frm : Nat) (x_alv : Nat) (x_stm : Nat) (x_mov : Nat) (x_dwn : Nat) (x_ctd : Nat) (x_cutm : Nat) (x_pha : Nat) (x_usd : Nat) (x_gol : Nat) (x_esr : Nat) (x_epo : Nat) (x_offm : Nat) (x_ast : Nat) (x_opn : Nat) (x_ssr : Nat) (x_spo : Nat) (x_awa : Nat) (x_dat : Nat) (kpt : Int32) (x_hd : Nat) (by0 : Int32) (to0 : Int32) (rep : Int32) (had : Int32) (ost : Int32) (bst : Int32) (x_inr : Nat) (esr : Nat → Int32) (epo : Nat → Int32) (gol : Nat → Int32) (usd : Nat → Int32) (pha : Nat → Int32) (hd : Nat → Int32) (b : Nat) (k : Int32) (e : Int32) (p0 : Int32) (fl : Int32) (hB : bN ≤ 4) (hS : 0 < sN0 ∧ sN0 ≤ 8) (hb : b < bN) (he : ¬ e < 0 → vp_in e 32) (sz : Nat) : zM l y_Mod_note (zT y_Mod_note b_Mod_note 7 none) (zR 1 22) 0 0 D K M [.ref m0, .int (nI b), .int k, .int e, .int p0, .int fl] [cO m0 11 [.int (nI bN), .int (nI sN0), .int (nI pN), .long k0, .long k1, .int now, .ref x_wd, .ref x_beg, .ref x_std, .ref x_dea, .ref x_frm, .ref x_alv, .ref x_stm, .ref x_mov, .ref x_dwn, .ref x_ctd, .ref x_cutm, .ref x_pha, .ref x_usd, .ref x_gol, .ref x_esr, .ref x_epo, .ref x_offm, .ref x_ast, .ref x_opn, .ref x_ssr, .ref x_spo, .ref x_awa, .ref x_dat, .int kpt, .ref x_hd, .int by0, .int to0, .int rep, .int had, .int ost, .int bst, .ref x_inr], cI K x_esr 32 esr, cI K x_epo 32 epo, cI K x_gol 32 gol, cI K x_usd 32 usd, cI K x_pha 32 pha, cI K x_hd 5 hd] sz (zQv D K M [cO m0 11 [.int (nI bN), .int (nI sN0), .int (nI pN), .long k0, .long k1, .int now, .ref x_wd, .ref x_beg, .ref x_std, .ref x_dea, .ref x_frm, .ref x_alv, .ref x_stm, .ref x_mov, .ref x_dwn, .ref x_ctd, .ref x_cutm, .ref x_pha, .ref x_usd, .ref x_gol, .ref x_esr, .ref x_epo, .ref x_offm, .ref x_ast, .ref x_opn, .ref x_ssr, .ref x_spo, .ref x_awa, .ref x_dat, .int kpt, .ref x_hd, .int by0, .int to0, .int rep, .int had, .int ost, .int bst, .ref x_inr], cI K x_esr 32 (g_put esr (g_at2 fl e pha b) (hd 3)), cI K x_epo 32 (g_put epo (g_at2 fl e pha b) p0), cI K x_gol 32 (g_put gol (g_at2 fl e pha b) k), cI K x_usd 32 (g_put usd (g_at2 fl e pha b) now), cI K x_pha 32 (g_put pha (g_at2 fl e pha b) (g_ph fl)), cI K x_hd 5 hd]) := by
  refine zx_head (by decide) (Nat.le_of_ble_eq_true rfl) ?_
  intro _ _ _ _ _ _ _ _ _ hF hr hlk hnm
  refine zx_iload (pc := 0) hF d_Mod_note_0 5 rfl ?_
  refine zx_iconst (pc := 2) hF d_Mod_note_2 k_i2 ?_
  refine zx_icmp_ne (pc := 3) hF d_Mod_note_3 (tgt := 18) rfl (fun h3 => ?_) (fun h3 => ?_)
  · refine zx_iload_n (pc := 18) hF d_Mod_note_18 rfl 3 rfl ?_
    refine zx_istore (pc := 19) hF (lv' := [(6, .int e), (0, .ref m0), (1, .int (nI b)), (2, .int k), (3, .int e), (4, .int p0), (5, .int fl)]) d_Mod_note_19 (by decide) rfl ?_
    refine zx_iload (pc := 21) hF d_Mod_note_21 0 rfl ?_
    refine zx_if_ge (pc := 23) hF d_Mod_note_23 (tgt := 27) rfl (fun h23 => ?_) (fun h23 => ?_)
    · have hx := zcl (n := 32) (by omega) (he (Int32.not_lt.mpr h23))
      refine zx_aload_n (pc := 27) hF d_Mod_note_27 rfl 1 rfl ?_
      refine zg_Mod_54 (pc := 28) hF 0 rfl rfl d_Mod_note_28 ?_
      refine zx_iload (pc := 31) hF d_Mod_note_31 0 rfl ?_
      refine zx_topi (nI (Int32.toNatClampNeg e)) (hx.1) ?_
      refine zx_aload_n (pc := 33) hF d_Mod_note_33 rfl 1 rfl ?_
      refine zg_Mod_81 (pc := 34) hF 0 rfl rfl d_Mod_note_34 ?_
      refine zx_iconst (pc := 37) hF d_Mod_note_37 k_i3 ?_
      refine zx_ialdn (pc := 38) hF (i := 3) 6 rfl (by omega) (by omega) d_Mod_note_38 ?_
      refine zx_iastn (pc := 39) hF (i := Int32.toNatClampNeg e) 1 rfl (by omega) (by omega) d_Mod_note_39 (ws' := [cO m0 11 [.int (nI bN), .int (nI sN0), .int (nI pN), .long k0, .long k1, .int now, .ref x_wd, .ref x_beg, .ref x_std, .ref x_dea, .ref x_frm, .ref x_alv, .ref x_stm, .ref x_mov, .ref x_dwn, .ref x_ctd, .ref x_cutm, .ref x_pha, .ref x_usd, .ref x_gol, .ref x_esr, .ref x_epo, .ref x_offm, .ref x_ast, .ref x_opn, .ref x_ssr, .ref x_spo, .ref x_awa, .ref x_dat, .int kpt, .ref x_hd, .int by0, .int to0, .int rep, .int had, .int ost, .int bst, .ref x_inr], cI K x_esr 32 (upd esr (Int32.toNatClampNeg e) (hd 3)), cI K x_epo 32 epo, cI K x_gol 32 gol, cI K x_usd 32 usd, cI K x_pha 32 pha, cI K x_hd 5 hd]) rfl ?_
      refine zx_aload_n (pc := 40) hF d_Mod_note_40 rfl 1 rfl ?_
      refine zg_Mod_57 (pc := 41) hF 0 rfl rfl d_Mod_note_41 ?_
      refine zx_iload (pc := 44) hF d_Mod_note_44 0 rfl ?_
      refine zx_topi (nI (Int32.toNatClampNeg e)) (hx.1) ?_
      refine zx_iload (pc := 46) hF d_Mod_note_46 5 rfl ?_
      refine zx_iastn (pc := 48) hF (i := Int32.toNatClampNeg e) 2 rfl (by omega) (by omega) d_Mod_note_48 (ws' := [cO m0 11 [.int (nI bN), .int (nI sN0), .int (nI pN), .long k0, .long k1, .int now, .ref x_wd, .ref x_beg, .ref x_std, .ref x_dea, .ref x_frm, .ref x_alv, .ref x_stm, .ref x_mov, .ref x_dwn, .ref x_ctd, .ref x_cutm, .ref x_pha, .ref x_usd, .ref x_gol, .ref x_esr, .ref x_epo, .ref x_offm, .ref x_ast, .ref x_opn, .ref x_ssr, .ref x_spo, .ref x_awa, .ref x_dat, .int kpt, .ref x_hd, .int by0, .int to0, .int rep, .int had, .int ost, .int bst, .ref x_inr], cI K x_esr 32 (upd esr (Int32.toNatClampNeg e) (hd 3)), cI K x_epo 32 (upd epo (Int32.toNatClampNeg e) p0), cI K x_gol 32 gol, cI K x_usd 32 usd, cI K x_pha 32 pha, cI K x_hd 5 hd]) rfl ?_
      refine zx_aload_n (pc := 49) hF d_Mod_note_49 rfl 1 rfl ?_
      refine zg_Mod_51 (pc := 50) hF 0 rfl rfl d_Mod_note_50 ?_
      refine zx_iload (pc := 53) hF d_Mod_note_53 0 rfl ?_
      refine zx_topi (nI (Int32.toNatClampNeg e)) (hx.1) ?_
      refine zx_iload_n (pc := 55) hF d_Mod_note_55 rfl 3 rfl ?_
      refine zx_iastn (pc := 56) hF (i := Int32.toNatClampNeg e) 3 rfl (by omega) (by omega) d_Mod_note_56 (ws' := [cO m0 11 [.int (nI bN), .int (nI sN0), .int (nI pN), .long k0, .long k1, .int now, .ref x_wd, .ref x_beg, .ref x_std, .ref x_dea, .ref x_frm, .ref x_alv, .ref x_stm, .ref x_mov, .ref x_dwn, .ref x_ctd, .ref x_cutm, .ref x_pha, .ref x_usd, .ref x_gol, .ref x_esr, .ref x_epo, .ref x_offm, .ref x_ast, .ref x_opn, .ref x_ssr, .ref x_spo, .ref x_awa, .ref x_dat, .int kpt, .ref x_hd, .int by0, .int to0, .int rep, .int had, .int ost, .int bst, .ref x_inr], cI K x_esr 32 (upd esr (Int32.toNatClampNeg e) (hd 3)), cI K x_epo 32 (upd epo (Int32.toNatClampNeg e) p0), cI K x_gol 32 (upd gol (Int32.toNatClampNeg e) k), cI K x_usd 32 usd, cI K x_pha 32 pha, cI K x_hd 5 hd]) rfl ?_
      refine zx_aload_n (pc := 57) hF d_Mod_note_57 rfl 1 rfl ?_
      refine zg_Mod_48 (pc := 58) hF 0 rfl rfl d_Mod_note_58 ?_
      refine zx_iload (pc := 61) hF d_Mod_note_61 0 rfl ?_
      refine zx_topi (nI (Int32.toNatClampNeg e)) (hx.1) ?_
      refine zx_aload_n (pc := 63) hF d_Mod_note_63 rfl 1 rfl ?_
      refine zg_Mod_202 (pc := 64) hF 0 rfl rfl d_Mod_note_64 ?_
      refine zx_iastn (pc := 67) hF (i := Int32.toNatClampNeg e) 4 rfl (by omega) (by omega) d_Mod_note_67 (ws' := [cO m0 11 [.int (nI bN), .int (nI sN0), .int (nI pN), .long k0, .long k1, .int now, .ref x_wd, .ref x_beg, .ref x_std, .ref x_dea, .ref x_frm, .ref x_alv, .ref x_stm, .ref x_mov, .ref x_dwn, .ref x_ctd, .ref x_cutm, .ref x_pha, .ref x_usd, .ref x_gol, .ref x_esr, .ref x_epo, .ref x_offm, .ref x_ast, .ref x_opn, .ref x_ssr, .ref x_spo, .ref x_awa, .ref x_dat, .int kpt, .ref x_hd, .int by0, .int to0, .int rep, .int had, .int ost, .int bst, .ref x_inr], cI K x_esr 32 (upd esr (Int32.toNatClampNeg e) (hd 3)), cI K x_epo 32 (upd epo (Int32.toNatClampNeg e) p0), cI K x_gol 32 (upd gol (Int32.toNatClampNeg e) k), cI K x_usd 32 (upd usd (Int32.toNatClampNeg e) now), cI K x_pha 32 pha, cI K x_hd 5 hd]) rfl ?_
      refine zx_aload_n (pc := 68) hF d_Mod_note_68 rfl 1 rfl ?_
      refine zg_Mod_45 (pc := 69) hF 0 rfl rfl d_Mod_note_69 ?_
      refine zx_iload (pc := 72) hF d_Mod_note_72 0 rfl ?_
      refine zx_topi (nI (Int32.toNatClampNeg e)) (hx.1) ?_
      refine zx_iload (pc := 74) hF d_Mod_note_74 6 rfl ?_
      refine zx_iconst (pc := 76) hF d_Mod_note_76 k_i2 ?_
      refine zx_icmp_ne (pc := 77) hF d_Mod_note_77 (tgt := 84) rfl (fun h77 => ?_) (fun h77 => ?_)
      · refine zx_iload (pc := 84) hF d_Mod_note_84 6 rfl ?_
        refine zx_bipush (pc := 86) hF d_Mod_note_86 k_b16 ?_
        refine zx_icmp_ne (pc := 88) hF d_Mod_note_88 (tgt := 96) rfl (fun h88 => ?_) (fun h88 => ?_)
        · refine zx_iload (pc := 96) hF d_Mod_note_96 6 rfl ?_
          refine zx_bipush (pc := 98) hF d_Mod_note_98 k_b17 ?_
          refine zx_icmp_ne (pc := 100) hF d_Mod_note_100 (tgt := 107) rfl (fun h100 => ?_) (fun h100 => ?_)
          · refine zx_iconst (pc := 107) hF d_Mod_note_107 k_i0 ?_
            refine zx_iastn (pc := 108) hF (i := Int32.toNatClampNeg e) 5 rfl (by omega) (by omega) d_Mod_note_108 (ws' := [cO m0 11 [.int (nI bN), .int (nI sN0), .int (nI pN), .long k0, .long k1, .int now, .ref x_wd, .ref x_beg, .ref x_std, .ref x_dea, .ref x_frm, .ref x_alv, .ref x_stm, .ref x_mov, .ref x_dwn, .ref x_ctd, .ref x_cutm, .ref x_pha, .ref x_usd, .ref x_gol, .ref x_esr, .ref x_epo, .ref x_offm, .ref x_ast, .ref x_opn, .ref x_ssr, .ref x_spo, .ref x_awa, .ref x_dat, .int kpt, .ref x_hd, .int by0, .int to0, .int rep, .int had, .int ost, .int bst, .ref x_inr], cI K x_esr 32 (upd esr (Int32.toNatClampNeg e) (hd 3)), cI K x_epo 32 (upd epo (Int32.toNatClampNeg e) p0), cI K x_gol 32 (upd gol (Int32.toNatClampNeg e) k), cI K x_usd 32 (upd usd (Int32.toNatClampNeg e) now), cI K x_pha 32 (upd pha (Int32.toNatClampNeg e) 0), cI K x_hd 5 hd]) rfl ?_
            exact zx_vret (pc := 109) hF hr hlk (by first | with_reducible rfl | (simp only [g_at2, g_put, g_ph, if_neg h3, if_pos h23, if_neg h77, if_neg h88, if_neg h100]; done) | (simp only [g_at2, g_put, g_ph, h3, h23, h77, h88, h100, ↓reduceIte]; done) | simp [g_at2, g_put, g_ph, h3, h23, h77, h88, h100]) d_Mod_note_109
          · refine zx_iconst (pc := 103) hF d_Mod_note_103 k_i2 ?_
            refine zx_goto (pc := 104) hF d_Mod_note_104 (tgt := 108) rfl ?_
            refine zx_iastn (pc := 108) hF (i := Int32.toNatClampNeg e) 5 rfl (by omega) (by omega) d_Mod_note_108 (ws' := [cO m0 11 [.int (nI bN), .int (nI sN0), .int (nI pN), .long k0, .long k1, .int now, .ref x_wd, .ref x_beg, .ref x_std, .ref x_dea, .ref x_frm, .ref x_alv, .ref x_stm, .ref x_mov, .ref x_dwn, .ref x_ctd, .ref x_cutm, .ref x_pha, .ref x_usd, .ref x_gol, .ref x_esr, .ref x_epo, .ref x_offm, .ref x_ast, .ref x_opn, .ref x_ssr, .ref x_spo, .ref x_awa, .ref x_dat, .int kpt, .ref x_hd, .int by0, .int to0, .int rep, .int had, .int ost, .int bst, .ref x_inr], cI K x_esr 32 (upd esr (Int32.toNatClampNeg e) (hd 3)), cI K x_epo 32 (upd epo (Int32.toNatClampNeg e) p0), cI K x_gol 32 (upd gol (Int32.toNatClampNeg e) k), cI K x_usd 32 (upd usd (Int32.toNatClampNeg e) now), cI K x_pha 32 (upd pha (Int32.toNatClampNeg e) 2), cI K x_hd 5 hd]) rfl ?_
            exact zx_vret (pc := 109) hF hr hlk (by first | with_reducible rfl | (simp only [g_at2, g_put, g_ph, if_neg h3, if_pos h23, if_neg h77, if_neg h88, if_pos h100]; done) | (simp only [g_at2, g_put, g_ph, h3, h23, h77, h88, h100, ↓reduceIte]; done) | simp [g_at2, g_put, g_ph, h3, h23, h77, h88, h100]) d_Mod_note_109
        · refine zx_bipush (pc := 91) hF d_Mod_note_91 k_b16 ?_
          refine zx_goto (pc := 93) hF d_Mod_note_93 (tgt := 108) rfl ?_
          refine zx_iastn (pc := 108) hF (i := Int32.toNatClampNeg e) 5 rfl (by omega) (by omega) d_Mod_note_108 (ws' := [cO m0 11 [.int (nI bN), .int (nI sN0), .int (nI pN), .long k0, .long k1, .int now, .ref x_wd, .ref x_beg, .ref x_std, .ref x_dea, .ref x_frm, .ref x_alv, .ref x_stm, .ref x_mov, .ref x_dwn, .ref x_ctd, .ref x_cutm, .ref x_pha, .ref x_usd, .ref x_gol, .ref x_esr, .ref x_epo, .ref x_offm, .ref x_ast, .ref x_opn, .ref x_ssr, .ref x_spo, .ref x_awa, .ref x_dat, .int kpt, .ref x_hd, .int by0, .int to0, .int rep, .int had, .int ost, .int bst, .ref x_inr], cI K x_esr 32 (upd esr (Int32.toNatClampNeg e) (hd 3)), cI K x_epo 32 (upd epo (Int32.toNatClampNeg e) p0), cI K x_gol 32 (upd gol (Int32.toNatClampNeg e) k), cI K x_usd 32 (upd usd (Int32.toNatClampNeg e) now), cI K x_pha 32 (upd pha (Int32.toNatClampNeg e) 16), cI K x_hd 5 hd]) rfl ?_
          exact zx_vret (pc := 109) hF hr hlk (by first | with_reducible rfl | (simp only [g_at2, g_put, g_ph, if_neg h3, if_pos h23, if_neg h77, if_pos h88]; done) | (simp only [g_at2, g_put, g_ph, h3, h23, h77, h88, ↓reduceIte]; done) | simp [g_at2, g_put, g_ph, h3, h23, h77, h88]) d_Mod_note_109
      · exact absurd h77 h3
    · exact zx_vret (pc := 26) hF hr hlk (by first | with_reducible rfl | (simp only [g_at2, g_put, g_ph, if_neg h3, if_neg h23]; done) | (simp only [g_at2, g_put, g_ph, h3, h23, ↓reduceIte]; done) | simp [g_at2, g_put, g_ph, h3, h23]) d_Mod_note_26
  · refine zx_iload_n (pc := 6) hF d_Mod_note_6 rfl 3 rfl ?_
    refine zx_if_ge (pc := 7) hF d_Mod_note_7 (tgt := 18) rfl (fun h7 => ?_) (fun h7 => ?_)
    · refine zx_iload_n (pc := 18) hF d_Mod_note_18 rfl 3 rfl ?_
      refine zx_istore (pc := 19) hF (lv' := [(6, .int e), (0, .ref m0), (1, .int (nI b)), (2, .int k), (3, .int e), (4, .int p0), (5, .int fl)]) d_Mod_note_19 (by decide) rfl ?_
      refine zx_iload (pc := 21) hF d_Mod_note_21 0 rfl ?_
      refine zx_if_ge (pc := 23) hF d_Mod_note_23 (tgt := 27) rfl (fun h23 => ?_) (fun h23 => ?_)
      · have hx := zcl (n := 32) (by omega) (he (Int32.not_lt.mpr h23))
        refine zx_aload_n (pc := 27) hF d_Mod_note_27 rfl 1 rfl ?_
        refine zg_Mod_54 (pc := 28) hF 0 rfl rfl d_Mod_note_28 ?_
        refine zx_iload (pc := 31) hF d_Mod_note_31 0 rfl ?_
        refine zx_topi (nI (Int32.toNatClampNeg e)) (hx.1) ?_
        refine zx_aload_n (pc := 33) hF d_Mod_note_33 rfl 1 rfl ?_
        refine zg_Mod_81 (pc := 34) hF 0 rfl rfl d_Mod_note_34 ?_
        refine zx_iconst (pc := 37) hF d_Mod_note_37 k_i3 ?_
        refine zx_ialdn (pc := 38) hF (i := 3) 6 rfl (by omega) (by omega) d_Mod_note_38 ?_
        refine zx_iastn (pc := 39) hF (i := Int32.toNatClampNeg e) 1 rfl (by omega) (by omega) d_Mod_note_39 (ws' := [cO m0 11 [.int (nI bN), .int (nI sN0), .int (nI pN), .long k0, .long k1, .int now, .ref x_wd, .ref x_beg, .ref x_std, .ref x_dea, .ref x_frm, .ref x_alv, .ref x_stm, .ref x_mov, .ref x_dwn, .ref x_ctd, .ref x_cutm, .ref x_pha, .ref x_usd, .ref x_gol, .ref x_esr, .ref x_epo, .ref x_offm, .ref x_ast, .ref x_opn, .ref x_ssr, .ref x_spo, .ref x_awa, .ref x_dat, .int kpt, .ref x_hd, .int by0, .int to0, .int rep, .int had, .int ost, .int bst, .ref x_inr], cI K x_esr 32 (upd esr (Int32.toNatClampNeg e) (hd 3)), cI K x_epo 32 epo, cI K x_gol 32 gol, cI K x_usd 32 usd, cI K x_pha 32 pha, cI K x_hd 5 hd]) rfl ?_
        refine zx_aload_n (pc := 40) hF d_Mod_note_40 rfl 1 rfl ?_
        refine zg_Mod_57 (pc := 41) hF 0 rfl rfl d_Mod_note_41 ?_
        refine zx_iload (pc := 44) hF d_Mod_note_44 0 rfl ?_
        refine zx_topi (nI (Int32.toNatClampNeg e)) (hx.1) ?_
        refine zx_iload (pc := 46) hF d_Mod_note_46 5 rfl ?_
        refine zx_iastn (pc := 48) hF (i := Int32.toNatClampNeg e) 2 rfl (by omega) (by omega) d_Mod_note_48 (ws' := [cO m0 11 [.int (nI bN), .int (nI sN0), .int (nI pN), .long k0, .long k1, .int now, .ref x_wd, .ref x_beg, .ref x_std, .ref x_dea, .ref x_frm, .ref x_alv, .ref x_stm, .ref x_mov, .ref x_dwn, .ref x_ctd, .ref x_cutm, .ref x_pha, .ref x_usd, .ref x_gol, .ref x_esr, .ref x_epo, .ref x_offm, .ref x_ast, .ref x_opn, .ref x_ssr, .ref x_spo, .ref x_awa, .ref x_dat, .int kpt, .ref x_hd, .int by0, .int to0, .int rep, .int had, .int ost, .int bst, .ref x_inr], cI K x_esr 32 (upd esr (Int32.toNatClampNeg e) (hd 3)), cI K x_epo 32 (upd epo (Int32.toNatClampNeg e) p0), cI K x_gol 32 gol, cI K x_usd 32 usd, cI K x_pha 32 pha, cI K x_hd 5 hd]) rfl ?_
        refine zx_aload_n (pc := 49) hF d_Mod_note_49 rfl 1 rfl ?_
        refine zg_Mod_51 (pc := 50) hF 0 rfl rfl d_Mod_note_50 ?_
        refine zx_iload (pc := 53) hF d_Mod_note_53 0 rfl ?_
        refine zx_topi (nI (Int32.toNatClampNeg e)) (hx.1) ?_
        refine zx_iload_n (pc := 55) hF d_Mod_note_55 rfl 3 rfl ?_
        refine zx_iastn (pc := 56) hF (i := Int32.toNatClampNeg e) 3 rfl (by omega) (by omega) d_Mod_note_56 (ws' := [cO m0 11 [.int (nI bN), .int (nI sN0), .int (nI pN), .long k0, .long k1, .int now, .ref x_wd, .ref x_beg, .ref x_std, .ref x_dea, .ref x_frm, .ref x_alv, .ref x_stm, .ref x_mov, .ref x_dwn, .ref x_ctd, .ref x_cutm, .ref x_pha, .ref x_usd, .ref x_gol, .ref x_esr, .ref x_epo, .ref x_offm, .ref x_ast, .ref x_opn, .ref x_ssr, .ref x_spo, .ref x_awa, .ref x_dat, .int kpt, .ref x_hd, .int by0, .int to0, .int rep, .int had, .int ost, .int bst, .ref x_inr], cI K x_esr 32 (upd esr (Int32.toNatClampNeg e) (hd 3)), cI K x_epo 32 (upd epo (Int32.toNatClampNeg e) p0), cI K x_gol 32 (upd gol (Int32.toNatClampNeg e) k), cI K x_usd 32 usd, cI K x_pha 32 pha, cI K x_hd 5 hd]) rfl ?_
        refine zx_aload_n (pc := 57) hF d_Mod_note_57 rfl 1 rfl ?_
        refine zg_Mod_48 (pc := 58) hF 0 rfl rfl d_Mod_note_58 ?_
        refine zx_iload (pc := 61) hF d_Mod_note_61 0 rfl ?_
        refine zx_topi (nI (Int32.toNatClampNeg e)) (hx.1) ?_
        refine zx_aload_n (pc := 63) hF d_Mod_note_63 rfl 1 rfl ?_
        refine zg_Mod_202 (pc := 64) hF 0 rfl rfl d_Mod_note_64 ?_
        refine zx_iastn (pc := 67) hF (i := Int32.toNatClampNeg e) 4 rfl (by omega) (by omega) d_Mod_note_67 (ws' := [cO m0 11 [.int (nI bN), .int (nI sN0), .int (nI pN), .long k0, .long k1, .int now, .ref x_wd, .ref x_beg, .ref x_std, .ref x_dea, .ref x_frm, .ref x_alv, .ref x_stm, .ref x_mov, .ref x_dwn, .ref x_ctd, .ref x_cutm, .ref x_pha, .ref x_usd, .ref x_gol, .ref x_esr, .ref x_epo, .ref x_offm, .ref x_ast, .ref x_opn, .ref x_ssr, .ref x_spo, .ref x_awa, .ref x_dat, .int kpt, .ref x_hd, .int by0, .int to0, .int rep, .int had, .int ost, .int bst, .ref x_inr], cI K x_esr 32 (upd esr (Int32.toNatClampNeg e) (hd 3)), cI K x_epo 32 (upd epo (Int32.toNatClampNeg e) p0), cI K x_gol 32 (upd gol (Int32.toNatClampNeg e) k), cI K x_usd 32 (upd usd (Int32.toNatClampNeg e) now), cI K x_pha 32 pha, cI K x_hd 5 hd]) rfl ?_
        refine zx_aload_n (pc := 68) hF d_Mod_note_68 rfl 1 rfl ?_
        refine zg_Mod_45 (pc := 69) hF 0 rfl rfl d_Mod_note_69 ?_
        refine zx_iload (pc := 72) hF d_Mod_note_72 0 rfl ?_
        refine zx_topi (nI (Int32.toNatClampNeg e)) (hx.1) ?_
        refine zx_iload (pc := 74) hF d_Mod_note_74 6 rfl ?_
        refine zx_iconst (pc := 76) hF d_Mod_note_76 k_i2 ?_
        refine zx_icmp_ne (pc := 77) hF d_Mod_note_77 (tgt := 84) rfl (fun h77 => ?_) (fun h77 => ?_)
        · exact absurd h3 h77
        · refine zx_iconst (pc := 80) hF d_Mod_note_80 k_i4 ?_
          refine zx_goto (pc := 81) hF d_Mod_note_81 (tgt := 108) rfl ?_
          refine zx_iastn (pc := 108) hF (i := Int32.toNatClampNeg e) 5 rfl (by omega) (by omega) d_Mod_note_108 (ws' := [cO m0 11 [.int (nI bN), .int (nI sN0), .int (nI pN), .long k0, .long k1, .int now, .ref x_wd, .ref x_beg, .ref x_std, .ref x_dea, .ref x_frm, .ref x_alv, .ref x_stm, .ref x_mov, .ref x_dwn, .ref x_ctd, .ref x_cutm, .ref x_pha, .ref x_usd, .ref x_gol, .ref x_esr, .ref x_epo, .ref x_offm, .ref x_ast, .ref x_opn, .ref x_ssr, .ref x_spo, .ref x_awa, .ref x_dat, .int kpt, .ref x_hd, .int by0, .int to0, .int rep, .int had, .int ost, .int bst, .ref x_inr], cI K x_esr 32 (upd esr (Int32.toNatClampNeg e) (hd 3)), cI K x_epo 32 (upd epo (Int32.toNatClampNeg e) p0), cI K x_gol 32 (upd gol (Int32.toNatClampNeg e) k), cI K x_usd 32 (upd usd (Int32.toNatClampNeg e) now), cI K x_pha 32 (upd pha (Int32.toNatClampNeg e) 4), cI K x_hd 5 hd]) rfl ?_
          exact zx_vret (pc := 109) hF hr hlk (by first | with_reducible rfl | (simp only [g_at2, g_put, g_ph, if_pos h3, if_pos h7, if_pos h23, if_pos h77]; done) | (simp only [g_at2, g_put, g_ph, h3, h7, h23, h77, ↓reduceIte]; done) | simp [g_at2, g_put, g_ph, h3, h7, h23, h77]) d_Mod_note_109
      · exact absurd h7 h23
    · refine zx_aload_n (pc := 10) hF d_Mod_note_10 rfl 0 rfl ?_
      refine zx_iload_n (pc := 11) hF d_Mod_note_11 rfl 1 rfl ?_
      refine zx_Vi (pc := 12) hF (As := [.int (nI b)]) (rest := []) (fun sz => M_Mod_freeSlot l D K M m0 bN sN0 pN k0 k1 now x_wd x_beg x_std x_dea x_frm x_alv x_stm x_mov x_dwn x_ctd x_cutm x_pha x_usd x_gol x_esr x_epo x_offm x_ast x_opn x_ssr x_spo x_awa x_dat kpt x_hd by0 to0 rep had ost bst x_inr pha b (by first | assumption | omega) (by first | assumption | omega) (by first | assumption | omega) sz) [0, 5] rfl (by decide) (as := [m0, x_pha]) rfl rfl (ws' := [cO m0 11 [.int (nI bN), .int (nI sN0), .int (nI pN), .long k0, .long k1, .int now, .ref x_wd, .ref x_beg, .ref x_std, .ref x_dea, .ref x_frm, .ref x_alv, .ref x_stm, .ref x_mov, .ref x_dwn, .ref x_ctd, .ref x_cutm, .ref x_pha, .ref x_usd, .ref x_gol, .ref x_esr, .ref x_epo, .ref x_offm, .ref x_ast, .ref x_opn, .ref x_ssr, .ref x_spo, .ref x_awa, .ref x_dat, .int kpt, .ref x_hd, .int by0, .int to0, .int rep, .int had, .int ost, .int bst, .ref x_inr], cI K x_esr 32 esr, cI K x_epo 32 epo, cI K x_gol 32 gol, cI K x_usd 32 usd, cI K x_pha 32 pha, cI K x_hd 5 hd]) rfl 0 11 rfl rfl rfl (cw_Mod_233 hF.2.2.2.2.1 rfl rfl ⟨by decide, by decide⟩) rfl rfl (Nat.le_of_ble_eq_true rfl) d_Mod_note_12 ⟨Nat.zero_le _, Nat.zero_le _⟩ ?_
      refine zx_goto (pc := 15) hF d_Mod_note_15 (tgt := 19) rfl ?_
      refine zx_istore (pc := 19) hF (lv' := [(6, .int (g_free pha b)), (0, .ref m0), (1, .int (nI b)), (2, .int k), (3, .int e), (4, .int p0), (5, .int fl)]) d_Mod_note_19 (by decide) rfl ?_
      refine zx_iload (pc := 21) hF d_Mod_note_21 0 rfl ?_
      refine zx_if_ge (pc := 23) hF d_Mod_note_23 (tgt := 27) rfl (fun h23 => ?_) (fun h23 => ?_)
      · have hx0 := f_first_rg (P := fun e => pha e == 0) (k := 8) (i := 8 * b) (by omega) (Int32.not_lt.mpr h23)
        have hx : g_free pha b = nI (g_free pha b).toNatClampNeg ∧ (g_free pha b).toNatClampNeg < 32 := ⟨hx0.1, by have := hx0.2.2; show (f_first (fun e => pha e == 0) 8 (8 * b)).toNatClampNeg < 32; omega⟩
        refine zx_aload_n (pc := 27) hF d_Mod_note_27 rfl 1 rfl ?_
        refine zg_Mod_54 (pc := 28) hF 0 rfl rfl d_Mod_note_28 ?_
        refine zx_iload (pc := 31) hF d_Mod_note_31 0 rfl ?_
        refine zx_topi (nI (Int32.toNatClampNeg (g_free pha b))) (hx.1) ?_
        refine zx_aload_n (pc := 33) hF d_Mod_note_33 rfl 1 rfl ?_
        refine zg_Mod_81 (pc := 34) hF 0 rfl rfl d_Mod_note_34 ?_
        refine zx_iconst (pc := 37) hF d_Mod_note_37 k_i3 ?_
        refine zx_ialdn (pc := 38) hF (i := 3) 6 rfl (by omega) (by omega) d_Mod_note_38 ?_
        refine zx_iastn (pc := 39) hF (i := Int32.toNatClampNeg (g_free pha b)) 1 rfl (by omega) (by omega) d_Mod_note_39 (ws' := [cO m0 11 [.int (nI bN), .int (nI sN0), .int (nI pN), .long k0, .long k1, .int now, .ref x_wd, .ref x_beg, .ref x_std, .ref x_dea, .ref x_frm, .ref x_alv, .ref x_stm, .ref x_mov, .ref x_dwn, .ref x_ctd, .ref x_cutm, .ref x_pha, .ref x_usd, .ref x_gol, .ref x_esr, .ref x_epo, .ref x_offm, .ref x_ast, .ref x_opn, .ref x_ssr, .ref x_spo, .ref x_awa, .ref x_dat, .int kpt, .ref x_hd, .int by0, .int to0, .int rep, .int had, .int ost, .int bst, .ref x_inr], cI K x_esr 32 (upd esr (Int32.toNatClampNeg (g_free pha b)) (hd 3)), cI K x_epo 32 epo, cI K x_gol 32 gol, cI K x_usd 32 usd, cI K x_pha 32 pha, cI K x_hd 5 hd]) rfl ?_
        refine zx_aload_n (pc := 40) hF d_Mod_note_40 rfl 1 rfl ?_
        refine zg_Mod_57 (pc := 41) hF 0 rfl rfl d_Mod_note_41 ?_
        refine zx_iload (pc := 44) hF d_Mod_note_44 0 rfl ?_
        refine zx_topi (nI (Int32.toNatClampNeg (g_free pha b))) (hx.1) ?_
        refine zx_iload (pc := 46) hF d_Mod_note_46 5 rfl ?_
        refine zx_iastn (pc := 48) hF (i := Int32.toNatClampNeg (g_free pha b)) 2 rfl (by omega) (by omega) d_Mod_note_48 (ws' := [cO m0 11 [.int (nI bN), .int (nI sN0), .int (nI pN), .long k0, .long k1, .int now, .ref x_wd, .ref x_beg, .ref x_std, .ref x_dea, .ref x_frm, .ref x_alv, .ref x_stm, .ref x_mov, .ref x_dwn, .ref x_ctd, .ref x_cutm, .ref x_pha, .ref x_usd, .ref x_gol, .ref x_esr, .ref x_epo, .ref x_offm, .ref x_ast, .ref x_opn, .ref x_ssr, .ref x_spo, .ref x_awa, .ref x_dat, .int kpt, .ref x_hd, .int by0, .int to0, .int rep, .int had, .int ost, .int bst, .ref x_inr], cI K x_esr 32 (upd esr (Int32.toNatClampNeg (g_free pha b)) (hd 3)), cI K x_epo 32 (upd epo (Int32.toNatClampNeg (g_free pha b)) p0), cI K x_gol 32 gol, cI K x_usd 32 usd, cI K x_pha 32 pha, cI K x_hd 5 hd]) rfl ?_
        refine zx_aload_n (pc := 49) hF d_Mod_note_49 rfl 1 rfl ?_
        refine zg_Mod_51 (pc := 50) hF 0 rfl rfl d_Mod_note_50 ?_
        refine zx_iload (pc := 53) hF d_Mod_note_53 0 rfl ?_
        refine zx_topi (nI (Int32.toNatClampNeg (g_free pha b))) (hx.1) ?_
        refine zx_iload_n (pc := 55) hF d_Mod_note_55 rfl 3 rfl ?_
        refine zx_iastn (pc := 56) hF (i := Int32.toNatClampNeg (g_free pha b)) 3 rfl (by omega) (by omega) d_Mod_note_56 (ws' := [cO m0 11 [.int (nI bN), .int (nI sN0), .int (nI pN), .long k0, .long k1, .int now, .ref x_wd, .ref x_beg, .ref x_std, .ref x_dea, .ref x_frm, .ref x_alv, .ref x_stm, .ref x_mov, .ref x_dwn, .ref x_ctd, .ref x_cutm, .ref x_pha, .ref x_usd, .ref x_gol, .ref x_esr, .ref x_epo, .ref x_offm, .ref x_ast, .ref x_opn, .ref x_ssr, .ref x_spo, .ref x_awa, .ref x_dat, .int kpt, .ref x_hd, .int by0, .int to0, .int rep, .int had, .int ost, .int bst, .ref x_inr], cI K x_esr 32 (upd esr (Int32.toNatClampNeg (g_free pha b)) (hd 3)), cI K x_epo 32 (upd epo (Int32.toNatClampNeg (g_free pha b)) p0), cI K x_gol 32 (upd gol (Int32.toNatClampNeg (g_free pha b)) k), cI K x_usd 32 usd, cI K x_pha 32 pha, cI K x_hd 5 hd]) rfl ?_
        refine zx_aload_n (pc := 57) hF d_Mod_note_57 rfl 1 rfl ?_
        refine zg_Mod_48 (pc := 58) hF 0 rfl rfl d_Mod_note_58 ?_
        refine zx_iload (pc := 61) hF d_Mod_note_61 0 rfl ?_
        refine zx_topi (nI (Int32.toNatClampNeg (g_free pha b))) (hx.1) ?_
        refine zx_aload_n (pc := 63) hF d_Mod_note_63 rfl 1 rfl ?_
        refine zg_Mod_202 (pc := 64) hF 0 rfl rfl d_Mod_note_64 ?_
        refine zx_iastn (pc := 67) hF (i := Int32.toNatClampNeg (g_free pha b)) 4 rfl (by omega) (by omega) d_Mod_note_67 (ws' := [cO m0 11 [.int (nI bN), .int (nI sN0), .int (nI pN), .long k0, .long k1, .int now, .ref x_wd, .ref x_beg, .ref x_std, .ref x_dea, .ref x_frm, .ref x_alv, .ref x_stm, .ref x_mov, .ref x_dwn, .ref x_ctd, .ref x_cutm, .ref x_pha, .ref x_usd, .ref x_gol, .ref x_esr, .ref x_epo, .ref x_offm, .ref x_ast, .ref x_opn, .ref x_ssr, .ref x_spo, .ref x_awa, .ref x_dat, .int kpt, .ref x_hd, .int by0, .int to0, .int rep, .int had, .int ost, .int bst, .ref x_inr], cI K x_esr 32 (upd esr (Int32.toNatClampNeg (g_free pha b)) (hd 3)), cI K x_epo 32 (upd epo (Int32.toNatClampNeg (g_free pha b)) p0), cI K x_gol 32 (upd gol (Int32.toNatClampNeg (g_free pha b)) k), cI K x_usd 32 (upd usd (Int32.toNatClampNeg (g_free pha b)) now), cI K x_pha 32 pha, cI K x_hd 5 hd]) rfl ?_
        refine zx_aload_n (pc := 68) hF d_Mod_note_68 rfl 1 rfl ?_
        refine zg_Mod_45 (pc := 69) hF 0 rfl rfl d_Mod_note_69 ?_
        refine zx_iload (pc := 72) hF d_Mod_note_72 0 rfl ?_
        refine zx_topi (nI (Int32.toNatClampNeg (g_free pha b))) (hx.1) ?_
        refine zx_iload (pc := 74) hF d_Mod_note_74 6 rfl ?_
        refine zx_iconst (pc := 76) hF d_Mod_note_76 k_i2 ?_
        refine zx_icmp_ne (pc := 77) hF d_Mod_note_77 (tgt := 84) rfl (fun h77 => ?_) (fun h77 => ?_)
        · exact absurd h3 h77
        · refine zx_iconst (pc := 80) hF d_Mod_note_80 k_i4 ?_
          refine zx_goto (pc := 81) hF d_Mod_note_81 (tgt := 108) rfl ?_
          refine zx_iastn (pc := 108) hF (i := Int32.toNatClampNeg (g_free pha b)) 5 rfl (by omega) (by omega) d_Mod_note_108 (ws' := [cO m0 11 [.int (nI bN), .int (nI sN0), .int (nI pN), .long k0, .long k1, .int now, .ref x_wd, .ref x_beg, .ref x_std, .ref x_dea, .ref x_frm, .ref x_alv, .ref x_stm, .ref x_mov, .ref x_dwn, .ref x_ctd, .ref x_cutm, .ref x_pha, .ref x_usd, .ref x_gol, .ref x_esr, .ref x_epo, .ref x_offm, .ref x_ast, .ref x_opn, .ref x_ssr, .ref x_spo, .ref x_awa, .ref x_dat, .int kpt, .ref x_hd, .int by0, .int to0, .int rep, .int had, .int ost, .int bst, .ref x_inr], cI K x_esr 32 (upd esr (Int32.toNatClampNeg (g_free pha b)) (hd 3)), cI K x_epo 32 (upd epo (Int32.toNatClampNeg (g_free pha b)) p0), cI K x_gol 32 (upd gol (Int32.toNatClampNeg (g_free pha b)) k), cI K x_usd 32 (upd usd (Int32.toNatClampNeg (g_free pha b)) now), cI K x_pha 32 (upd pha (Int32.toNatClampNeg (g_free pha b)) 4), cI K x_hd 5 hd]) rfl ?_
          exact zx_vret (pc := 109) hF hr hlk (by first | with_reducible rfl | (simp only [g_at2, g_put, g_ph, if_pos h3, if_neg h7, if_pos h23, if_pos h77]; done) | (simp only [g_at2, g_put, g_ph, h3, h7, h23, h77, ↓reduceIte]; done) | simp [g_at2, g_put, g_ph, h3, h7, h23, h77]) d_Mod_note_109
      · exact zx_vret (pc := 26) hF hr hlk (by first | with_reducible rfl | (simp only [g_at2, g_put, g_ph, if_pos h3, if_neg h7, if_neg h23]; done) | (simp only [g_at2, g_put, g_ph, h3, h7, h23, ↓reduceIte]; done) | simp [g_at2, g_put, g_ph, h3, h7, h23]) d_Mod_note_26
set_option maxRecDepth 20000 in
theorem M_Mod_greet (l : Launch) (D : va_G) (K : Nat → ClassId) (M : List (ClassId × FieldType)) (m0 : Nat) (bN : Nat) (sN0 : Nat) (pN : Nat) (k0 : Int64) (k1 : Int64) (now : Int32) (x_wd : Nat) (x_beg : Nat) (x_std : Nat) (x_dea : Nat) (x_frm : Nat) (x_alv : Nat) (x_stm : Nat) (x_mov : Nat) (x_dwn : Nat) (x_ctd : Nat) (x_cutm : Nat) (x_pha : Nat) (x_usd : Nat) (x_gol : Nat) (x_esr : Nat) (x_epo : Nat) (x_offm : Nat) (x_ast : Nat) (x_opn : Nat) (x_ssr : Nat) (x_spo : Nat) (x_awa : Nat) (x_dat : Nat) (kpt : Int32) (x_hd : Nat) (by0 : Int32) (to0 : Int32) (rep : Int32) (had : Int32) (ost : Int32) (bst : Int32) (x_inr : Nat) (opn : Nat → Int32) (ssr : Nat → Int32) (spo : Nat → Int32) (awa : Nat → Int32) (dat : Nat → Int32) (hd : Nat → Int32) (e : Int32) (p0 : Int32) (sq : Int32) (he : ¬ e < 0 → vp_in e 80) (sz : Nat) : zM l y_Mod_greet (zT y_Mod_greet b_Mod_greet 4 (some .int)) (zR 0 0) 0 0 D K M [.ref m0, .int e, .int p0, .int sq] [cO m0 11 [.int (nI bN), .int (nI sN0), .int (nI pN), .long k0, .long k1, .int now, .ref x_wd, .ref x_beg, .ref x_std, .ref x_dea, .ref x_frm, .ref x_alv, .ref x_stm, .ref x_mov, .ref x_dwn, .ref x_ctd, .ref x_cutm, .ref x_pha, .ref x_usd, .ref x_gol, .ref x_esr, .ref x_epo, .ref x_offm, .ref x_ast, .ref x_opn, .ref x_ssr, .ref x_spo, .ref x_awa, .ref x_dat, .int kpt, .ref x_hd, .int by0, .int to0, .int rep, .int had, .int ost, .int bst, .ref x_inr], cZ K x_opn 80 opn, cI K x_ssr 80 ssr, cI K x_spo 80 spo, cI K x_awa 80 awa, cI K x_dat 80 dat, cI K x_hd 5 hd] sz (zQi D K M (if 0 ≤ e then 1 else 4) [cO m0 11 [.int (nI bN), .int (nI sN0), .int (nI pN), .long k0, .long k1, .int now, .ref x_wd, .ref x_beg, .ref x_std, .ref x_dea, .ref x_frm, .ref x_alv, .ref x_stm, .ref x_mov, .ref x_dwn, .ref x_ctd, .ref x_cutm, .ref x_pha, .ref x_usd, .ref x_gol, .ref x_esr, .ref x_epo, .ref x_offm, .ref x_ast, .ref x_opn, .ref x_ssr, .ref x_spo, .ref x_awa, .ref x_dat, .int kpt, .ref x_hd, .int by0, .int to0, .int rep, .int had, .int ost, .int bst, .ref x_inr], cZ K x_opn 80 (g_put opn e 1), cI K x_ssr 80 (g_put ssr e (hd 3)), cI K x_spo 80 (g_put spo e p0), cI K x_awa 80 (g_put awa e (sq + 1)), cI K x_dat 80 (g_put dat e 0), cI K x_hd 5 hd]) := by
  refine zx_head (by decide) (Nat.le_of_ble_eq_true rfl) ?_
  intro _ _ _ _ _ _ _ _ _ hF hr hlk hnm
  refine zx_iload_n (pc := 0) hF d_Mod_greet_0 rfl 1 rfl ?_
  refine zx_if_ge (pc := 1) hF d_Mod_greet_1 (tgt := 6) rfl (fun h1 => ?_) (fun h1 => ?_)
  · have hx := zcl (n := 80) (by omega) (he (Int32.not_lt.mpr h1))
    refine zx_aload_n (pc := 6) hF d_Mod_greet_6 rfl 0 rfl ?_
    refine zg_Mod_66 (pc := 7) hF 0 rfl rfl d_Mod_greet_7 ?_
    refine zx_iload_n (pc := 10) hF d_Mod_greet_10 rfl 1 rfl ?_
    refine zx_topi (nI (Int32.toNatClampNeg e)) (hx.1) ?_
    refine zx_iconst (pc := 11) hF d_Mod_greet_11 k_i1 ?_
    refine zx_zastn (pc := 12) hF (i := Int32.toNatClampNeg e) 1 rfl (by omega) (by omega) rfl d_Mod_greet_12 (ws' := [cO m0 11 [.int (nI bN), .int (nI sN0), .int (nI pN), .long k0, .long k1, .int now, .ref x_wd, .ref x_beg, .ref x_std, .ref x_dea, .ref x_frm, .ref x_alv, .ref x_stm, .ref x_mov, .ref x_dwn, .ref x_ctd, .ref x_cutm, .ref x_pha, .ref x_usd, .ref x_gol, .ref x_esr, .ref x_epo, .ref x_offm, .ref x_ast, .ref x_opn, .ref x_ssr, .ref x_spo, .ref x_awa, .ref x_dat, .int kpt, .ref x_hd, .int by0, .int to0, .int rep, .int had, .int ost, .int bst, .ref x_inr], cZ K x_opn 80 (upd opn (Int32.toNatClampNeg e) 1), cI K x_ssr 80 ssr, cI K x_spo 80 spo, cI K x_awa 80 awa, cI K x_dat 80 dat, cI K x_hd 5 hd]) rfl ?_
    refine zx_aload_n (pc := 13) hF d_Mod_greet_13 rfl 0 rfl ?_
    refine zg_Mod_69 (pc := 14) hF 0 rfl rfl d_Mod_greet_14 ?_
    refine zx_iload_n (pc := 17) hF d_Mod_greet_17 rfl 1 rfl ?_
    refine zx_topi (nI (Int32.toNatClampNeg e)) (hx.1) ?_
    refine zx_aload_n (pc := 18) hF d_Mod_greet_18 rfl 0 rfl ?_
    refine zg_Mod_81 (pc := 19) hF 0 rfl rfl d_Mod_greet_19 ?_
    refine zx_iconst (pc := 22) hF d_Mod_greet_22 k_i3 ?_
    refine zx_ialdn (pc := 23) hF (i := 3) 6 rfl (by omega) (by omega) d_Mod_greet_23 ?_
    refine zx_iastn (pc := 24) hF (i := Int32.toNatClampNeg e) 2 rfl (by omega) (by omega) d_Mod_greet_24 (ws' := [cO m0 11 [.int (nI bN), .int (nI sN0), .int (nI pN), .long k0, .long k1, .int now, .ref x_wd, .ref x_beg, .ref x_std, .ref x_dea, .ref x_frm, .ref x_alv, .ref x_stm, .ref x_mov, .ref x_dwn, .ref x_ctd, .ref x_cutm, .ref x_pha, .ref x_usd, .ref x_gol, .ref x_esr, .ref x_epo, .ref x_offm, .ref x_ast, .ref x_opn, .ref x_ssr, .ref x_spo, .ref x_awa, .ref x_dat, .int kpt, .ref x_hd, .int by0, .int to0, .int rep, .int had, .int ost, .int bst, .ref x_inr], cZ K x_opn 80 (upd opn (Int32.toNatClampNeg e) 1), cI K x_ssr 80 (upd ssr (Int32.toNatClampNeg e) (hd 3)), cI K x_spo 80 spo, cI K x_awa 80 awa, cI K x_dat 80 dat, cI K x_hd 5 hd]) rfl ?_
    refine zx_aload_n (pc := 25) hF d_Mod_greet_25 rfl 0 rfl ?_
    refine zg_Mod_72 (pc := 26) hF 0 rfl rfl d_Mod_greet_26 ?_
    refine zx_iload_n (pc := 29) hF d_Mod_greet_29 rfl 1 rfl ?_
    refine zx_topi (nI (Int32.toNatClampNeg e)) (hx.1) ?_
    refine zx_iload_n (pc := 30) hF d_Mod_greet_30 rfl 2 rfl ?_
    refine zx_iastn (pc := 31) hF (i := Int32.toNatClampNeg e) 3 rfl (by omega) (by omega) d_Mod_greet_31 (ws' := [cO m0 11 [.int (nI bN), .int (nI sN0), .int (nI pN), .long k0, .long k1, .int now, .ref x_wd, .ref x_beg, .ref x_std, .ref x_dea, .ref x_frm, .ref x_alv, .ref x_stm, .ref x_mov, .ref x_dwn, .ref x_ctd, .ref x_cutm, .ref x_pha, .ref x_usd, .ref x_gol, .ref x_esr, .ref x_epo, .ref x_offm, .ref x_ast, .ref x_opn, .ref x_ssr, .ref x_spo, .ref x_awa, .ref x_dat, .int kpt, .ref x_hd, .int by0, .int to0, .int rep, .int had, .int ost, .int bst, .ref x_inr], cZ K x_opn 80 (upd opn (Int32.toNatClampNeg e) 1), cI K x_ssr 80 (upd ssr (Int32.toNatClampNeg e) (hd 3)), cI K x_spo 80 (upd spo (Int32.toNatClampNeg e) p0), cI K x_awa 80 awa, cI K x_dat 80 dat, cI K x_hd 5 hd]) rfl ?_
    refine zx_aload_n (pc := 32) hF d_Mod_greet_32 rfl 0 rfl ?_
    refine zg_Mod_75 (pc := 33) hF 0 rfl rfl d_Mod_greet_33 ?_
    refine zx_iload_n (pc := 36) hF d_Mod_greet_36 rfl 1 rfl ?_
    refine zx_topi (nI (Int32.toNatClampNeg e)) (hx.1) ?_
    refine zx_iload_n (pc := 37) hF d_Mod_greet_37 rfl 3 rfl ?_
    refine zx_iconst (pc := 38) hF d_Mod_greet_38 k_i1 ?_
    refine zx_iadd (pc := 39) hF d_Mod_greet_39 ?_
    refine zx_iastn (pc := 40) hF (i := Int32.toNatClampNeg e) 4 rfl (by omega) (by omega) d_Mod_greet_40 (ws' := [cO m0 11 [.int (nI bN), .int (nI sN0), .int (nI pN), .long k0, .long k1, .int now, .ref x_wd, .ref x_beg, .ref x_std, .ref x_dea, .ref x_frm, .ref x_alv, .ref x_stm, .ref x_mov, .ref x_dwn, .ref x_ctd, .ref x_cutm, .ref x_pha, .ref x_usd, .ref x_gol, .ref x_esr, .ref x_epo, .ref x_offm, .ref x_ast, .ref x_opn, .ref x_ssr, .ref x_spo, .ref x_awa, .ref x_dat, .int kpt, .ref x_hd, .int by0, .int to0, .int rep, .int had, .int ost, .int bst, .ref x_inr], cZ K x_opn 80 (upd opn (Int32.toNatClampNeg e) 1), cI K x_ssr 80 (upd ssr (Int32.toNatClampNeg e) (hd 3)), cI K x_spo 80 (upd spo (Int32.toNatClampNeg e) p0), cI K x_awa 80 (upd awa (Int32.toNatClampNeg e) (sq + 1)), cI K x_dat 80 dat, cI K x_hd 5 hd]) rfl ?_
    refine zx_aload_n (pc := 41) hF d_Mod_greet_41 rfl 0 rfl ?_
    refine zg_Mod_78 (pc := 42) hF 0 rfl rfl d_Mod_greet_42 ?_
    refine zx_iload_n (pc := 45) hF d_Mod_greet_45 rfl 1 rfl ?_
    refine zx_topi (nI (Int32.toNatClampNeg e)) (hx.1) ?_
    refine zx_iconst (pc := 46) hF d_Mod_greet_46 k_i0 ?_
    refine zx_iastn (pc := 47) hF (i := Int32.toNatClampNeg e) 5 rfl (by omega) (by omega) d_Mod_greet_47 (ws' := [cO m0 11 [.int (nI bN), .int (nI sN0), .int (nI pN), .long k0, .long k1, .int now, .ref x_wd, .ref x_beg, .ref x_std, .ref x_dea, .ref x_frm, .ref x_alv, .ref x_stm, .ref x_mov, .ref x_dwn, .ref x_ctd, .ref x_cutm, .ref x_pha, .ref x_usd, .ref x_gol, .ref x_esr, .ref x_epo, .ref x_offm, .ref x_ast, .ref x_opn, .ref x_ssr, .ref x_spo, .ref x_awa, .ref x_dat, .int kpt, .ref x_hd, .int by0, .int to0, .int rep, .int had, .int ost, .int bst, .ref x_inr], cZ K x_opn 80 (upd opn (Int32.toNatClampNeg e) 1), cI K x_ssr 80 (upd ssr (Int32.toNatClampNeg e) (hd 3)), cI K x_spo 80 (upd spo (Int32.toNatClampNeg e) p0), cI K x_awa 80 (upd awa (Int32.toNatClampNeg e) (sq + 1)), cI K x_dat 80 (upd dat (Int32.toNatClampNeg e) 0), cI K x_hd 5 hd]) rfl ?_
    refine zx_iconst (pc := 48) hF d_Mod_greet_48 k_i1 ?_
    exact zx_iret (pc := 49) hF hr hlk (by first | with_reducible rfl | (simp only [g_put, if_pos h1]; done) | (simp only [g_put, h1, ↓reduceIte]; done) | simp [g_put, h1]) (by first | with_reducible rfl | (simp only [g_put, if_pos h1]; done) | (simp only [g_put, h1, ↓reduceIte]; done) | simp [g_put, h1]) d_Mod_greet_49
  · refine zx_iconst (pc := 4) hF d_Mod_greet_4 k_i4 ?_
    exact zx_iret (pc := 5) hF hr hlk (by first | with_reducible rfl | (simp only [g_put, if_neg h1]; done) | (simp only [g_put, h1, ↓reduceIte]; done) | simp [g_put, h1]) (by first | with_reducible rfl | (simp only [g_put, if_neg h1]; done) | (simp only [g_put, h1, ↓reduceIte]; done) | simp [g_put, h1]) d_Mod_greet_5
