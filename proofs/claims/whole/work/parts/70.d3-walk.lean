set_option maxRecDepth 20000 in
theorem M_Mod_route (l : Launch) (D : va_G) (K : Nat → ClassId) (M : List (ClassId × FieldType)) (m0 : Nat) (bN : Nat) (sN0 : Nat) (pN : Nat) (k0 : Int64) (k1 : Int64) (now : Int32) (x_wd : Nat) (x_beg : Nat) (x_std : Nat) (x_dea : Nat) (x_frm : Nat) (x_alv : Nat) (x_stm : Nat) (x_mov : Nat) (x_dwn : Nat) (x_ctd : Nat) (x_cutm : Nat) (x_pha : Nat) (x_usd : Nat) (x_gol : Nat) (x_esr : Nat) (x_epo : Nat) (x_offm : Nat) (x_ast : Nat) (x_opn : Nat) (x_ssr : Nat) (x_spo : Nat) (x_awa : Nat) (x_dat : Nat) (kpt : Int32) (x_hd : Nat) (by0 : Int32) (to0 : Int32) (rep : Int32) (had : Int32) (ost : Int32) (bst : Int32) (x_inr : Nat) (alv : Nat → Int32) (h : Int64) (hB : bN ≤ 4) (hS : 0 < sN0 ∧ sN0 ≤ 8) (sz : Nat) : zM l y_Mod_route (zT y_Mod_route b_Mod_route 8 (some .int)) (zR 1 27) 0 0 D K M [.ref m0, .long h] [cO m0 11 [.int (nI bN), .int (nI sN0), .int (nI pN), .long k0, .long k1, .int now, .ref x_wd, .ref x_beg, .ref x_std, .ref x_dea, .ref x_frm, .ref x_alv, .ref x_stm, .ref x_mov, .ref x_dwn, .ref x_ctd, .ref x_cutm, .ref x_pha, .ref x_usd, .ref x_gol, .ref x_esr, .ref x_epo, .ref x_offm, .ref x_ast, .ref x_opn, .ref x_ssr, .ref x_spo, .ref x_awa, .ref x_dat, .int kpt, .ref x_hd, .int by0, .int to0, .int rep, .int had, .int ost, .int bst, .ref x_inr], cZ K x_alv 4 alv] sz (zQi D K M (g_route alv bN h) [cO m0 11 [.int (nI bN), .int (nI sN0), .int (nI pN), .long k0, .long k1, .int now, .ref x_wd, .ref x_beg, .ref x_std, .ref x_dea, .ref x_frm, .ref x_alv, .ref x_stm, .ref x_mov, .ref x_dwn, .ref x_ctd, .ref x_cutm, .ref x_pha, .ref x_usd, .ref x_gol, .ref x_esr, .ref x_epo, .ref x_offm, .ref x_ast, .ref x_opn, .ref x_ssr, .ref x_spo, .ref x_awa, .ref x_dat, .int kpt, .ref x_hd, .int by0, .int to0, .int rep, .int had, .int ost, .int bst, .ref x_inr], cZ K x_alv 4 alv]) := by
  refine zx_head (by decide) (Nat.le_of_ble_eq_true rfl) ?_
  intro _ _ _ _ _ _ _ _ _ hF hr hlk hnm
  refine zx_lconst (pc := 0) hF d_Mod_route_0 k_l0 ?_
  refine zx_lstore_n (pc := 1) hF (lv' := [(3, .long 0), (0, .ref m0), (1, .long h)]) d_Mod_route_1 rfl (by decide) rfl ?_
  refine zx_iconst (pc := 2) hF d_Mod_route_2 k_i0 ?_
  refine zx_istore (pc := 3) hF (lv' := [(5, .int 0), (3, .long 0), (0, .ref m0), (1, .long h)]) d_Mod_route_3 (by decide) rfl ?_
  refine zx_lv [2, 3, 1, 0] (lv' := [(0, .ref m0), (1, .long h), (3, .long 0), (5, .int 0)]) rfl ?_
  refine zx_loop (pc := 5) (σ := Nat × Int64) (fun kA zv => (zv.1 + kA = bN) ∧ (g_lv alv kA zv.1 zv.2 = g_lv alv bN 0 0)) (fun zv => [cO m0 11 [.int (nI bN), .int (nI sN0), .int (nI pN), .long k0, .long k1, .int now, .ref x_wd, .ref x_beg, .ref x_std, .ref x_dea, .ref x_frm, .ref x_alv, .ref x_stm, .ref x_mov, .ref x_dwn, .ref x_ctd, .ref x_cutm, .ref x_pha, .ref x_usd, .ref x_gol, .ref x_esr, .ref x_epo, .ref x_offm, .ref x_ast, .ref x_opn, .ref x_ssr, .ref x_spo, .ref x_awa, .ref x_dat, .int kpt, .ref x_hd, .int by0, .int to0, .int rep, .int had, .int ost, .int bst, .ref x_inr], cZ K x_alv 4 alv]) (fun zv => [(0, .ref m0), (1, .long h), (3, .long zv.2), (5, .int (nI zv.1))]) bN (0, 0) ⟨by first | omega | (dsimp only; omega) | dsimp only, rfl⟩ rfl rfl ?_
  intro kA zv hI ihA
  obtain ⟨j, c⟩ := zv
  obtain ⟨hkA, hXA⟩ := hI
  replace hkA : j + kA = bN := hkA
  replace hXA : g_lv alv kA j c = g_lv alv bN 0 0 := hXA
  refine zx_eq (ws' := [cO m0 11 [.int (nI bN), .int (nI sN0), .int (nI pN), .long k0, .long k1, .int now, .ref x_wd, .ref x_beg, .ref x_std, .ref x_dea, .ref x_frm, .ref x_alv, .ref x_stm, .ref x_mov, .ref x_dwn, .ref x_ctd, .ref x_cutm, .ref x_pha, .ref x_usd, .ref x_gol, .ref x_esr, .ref x_epo, .ref x_offm, .ref x_ast, .ref x_opn, .ref x_ssr, .ref x_spo, .ref x_awa, .ref x_dat, .int kpt, .ref x_hd, .int by0, .int to0, .int rep, .int had, .int ost, .int bst, .ref x_inr], cZ K x_alv 4 alv]) (lv' := [(0, .ref m0), (1, .long h), (3, .long c), (5, .int (nI j))]) rfl rfl rfl ?_
  refine zx_iload (pc := 5) hF d_Mod_route_5 3 rfl ?_
  refine zx_aload_n (pc := 7) hF d_Mod_route_7 rfl 0 rfl ?_
  refine zg_Mod_101 (pc := 8) hF 0 rfl rfl d_Mod_route_8 ?_
  refine zx_icmp_ge (pc := 11) hF d_Mod_route_11 (tgt := 38) rfl (fun h11 => ?_) (fun h11 => ?_)
  · replace h11 : bN ≤ j := (nI_leI (a := bN) (b := j) (by omega) (by omega)).mp h11
    obtain rfl : kA = 0 := (by omega)
    have q_c : c = g_lv alv bN 0 0 := hXA
    subst q_c
    refine zx_lload_n (pc := 38) hF d_Mod_route_38 rfl 1 rfl ?_
    refine zx_Sl (pc := 39) hF (As := [.long h]) (rest := []) (fun sz => M_Mod_upper l D K M h  sz) [] rfl List.nodup_nil (as := []) rfl rfl (ws' := [cO m0 11 [.int (nI bN), .int (nI sN0), .int (nI pN), .long k0, .long k1, .int now, .ref x_wd, .ref x_beg, .ref x_std, .ref x_dea, .ref x_frm, .ref x_alv, .ref x_stm, .ref x_mov, .ref x_dwn, .ref x_ctd, .ref x_cutm, .ref x_pha, .ref x_usd, .ref x_gol, .ref x_esr, .ref x_epo, .ref x_offm, .ref x_ast, .ref x_opn, .ref x_ssr, .ref x_spo, .ref x_awa, .ref x_dat, .int kpt, .ref x_hd, .int by0, .int to0, .int rep, .int had, .int ost, .int bst, .ref x_inr], cZ K x_alv 4 alv]) rfl (cw_Mod_128 hF.2.2.2.2.1 rfl rfl ⟨by decide, by decide⟩) rfl rfl (Nat.le_of_ble_eq_true rfl) d_Mod_route_39 ⟨Nat.zero_le _, Nat.zero_le _⟩ ?_
    refine zx_lload_n (pc := 42) hF d_Mod_route_42 rfl 2 rfl ?_
    refine zx_lmul (pc := 43) hF d_Mod_route_43 ?_
    refine zx_ldc2 (pc := 44) hF wk_Mod_136 d_Mod_route_44 ?_
    refine zx_ldiv (pc := 47) hF d_Mod_route_47 (by decide) ?_
    refine zx_lstore (pc := 48) hF (lv' := [(5, .long (((f_upper h) * (g_lv alv bN 0 0)) / 4294967296)), (0, .ref m0), (1, .long h), (3, .long (g_lv alv bN 0 0))]) d_Mod_route_48 (by decide) rfl ?_
    refine zx_iconst (pc := 50) hF d_Mod_route_50 k_i0 ?_
    refine zx_istore (pc := 51) hF (lv' := [(7, .int 0), (5, .long (((f_upper h) * (g_lv alv bN 0 0)) / 4294967296)), (0, .ref m0), (1, .long h), (3, .long (g_lv alv bN 0 0))]) d_Mod_route_51 (by decide) rfl ?_
    refine zx_lv [2, 1, 0] (lv' := [(0, .ref m0), (5, .long (((f_upper h) * (g_lv alv bN 0 0)) / 4294967296)), (7, .int 0)]) rfl ?_
    refine zx_loop (pc := 53) (σ := Nat × Int64) (fun k zv => (zv.1 + k = bN) ∧ (g_rt alv k zv.1 zv.2 = g_route alv bN h)) (fun zv => [cO m0 11 [.int (nI bN), .int (nI sN0), .int (nI pN), .long k0, .long k1, .int now, .ref x_wd, .ref x_beg, .ref x_std, .ref x_dea, .ref x_frm, .ref x_alv, .ref x_stm, .ref x_mov, .ref x_dwn, .ref x_ctd, .ref x_cutm, .ref x_pha, .ref x_usd, .ref x_gol, .ref x_esr, .ref x_epo, .ref x_offm, .ref x_ast, .ref x_opn, .ref x_ssr, .ref x_spo, .ref x_awa, .ref x_dat, .int kpt, .ref x_hd, .int by0, .int to0, .int rep, .int had, .int ost, .int bst, .ref x_inr], cZ K x_alv 4 alv]) (fun zv => [(0, .ref m0), (5, .long zv.2), (7, .int (nI zv.1))]) bN (0, (((f_upper h) * (g_lv alv bN 0 0)) / 4294967296)) ⟨by first | omega | (dsimp only; omega) | dsimp only, rfl⟩ rfl rfl ?_
    intro k zv hI ih
    obtain ⟨j, c⟩ := zv
    obtain ⟨hk, hX⟩ := hI
    replace hk : j + k = bN := hk
    replace hX : g_rt alv k j c = g_route alv bN h := hX
    refine zx_eq (ws' := [cO m0 11 [.int (nI bN), .int (nI sN0), .int (nI pN), .long k0, .long k1, .int now, .ref x_wd, .ref x_beg, .ref x_std, .ref x_dea, .ref x_frm, .ref x_alv, .ref x_stm, .ref x_mov, .ref x_dwn, .ref x_ctd, .ref x_cutm, .ref x_pha, .ref x_usd, .ref x_gol, .ref x_esr, .ref x_epo, .ref x_offm, .ref x_ast, .ref x_opn, .ref x_ssr, .ref x_spo, .ref x_awa, .ref x_dat, .int kpt, .ref x_hd, .int by0, .int to0, .int rep, .int had, .int ost, .int bst, .ref x_inr], cZ K x_alv 4 alv]) (lv' := [(0, .ref m0), (5, .long c), (7, .int (nI j))]) rfl rfl rfl ?_
    refine zx_iload (pc := 53) hF d_Mod_route_53 2 rfl ?_
    refine zx_aload_n (pc := 55) hF d_Mod_route_55 rfl 0 rfl ?_
    refine zg_Mod_101 (pc := 56) hF 0 rfl rfl d_Mod_route_56 ?_
    refine zx_icmp_ge (pc := 59) hF d_Mod_route_59 (tgt := 109) rfl (fun h59 => ?_) (fun h59 => ?_)
    · replace h59 : bN ≤ j := (nI_leI (a := bN) (b := j) (by omega) (by omega)).mp h59
      refine zx_iconst (pc := 109) hF d_Mod_route_109 k_im1 ?_
      exact zx_iret (pc := 110) hF hr hlk (by obtain rfl : k = 0 := (by omega); exact hX) rfl d_Mod_route_110
    · replace h59 : ¬ bN ≤ j := fun z => h59 ((nI_leI (a := bN) (b := j) (by omega) (by omega)).mpr z)
      refine zx_aload_n (pc := 62) hF d_Mod_route_62 rfl 0 rfl ?_
      refine zg_Mod_26 (pc := 63) hF 0 rfl rfl d_Mod_route_63 ?_
      refine zx_iload (pc := 66) hF d_Mod_route_66 2 rfl ?_
      refine zx_zaldn (pc := 68) hF (i := j) 1 rfl (by omega) (by omega) d_Mod_route_68 ?_
      refine zx_if_eq (pc := 69) hF d_Mod_route_69 (tgt := 82) rfl (fun h69 => ?_) (fun h69 => ?_)
      · refine zx_aload_n (pc := 82) hF d_Mod_route_82 rfl 0 rfl ?_
        refine zg_Mod_26 (pc := 83) hF 0 rfl rfl d_Mod_route_83 ?_
        refine zx_iload (pc := 86) hF d_Mod_route_86 2 rfl ?_
        refine zx_zaldn (pc := 88) hF (i := j) 1 rfl (by omega) (by omega) d_Mod_route_88 ?_
        refine zx_if_eq (pc := 89) hF d_Mod_route_89 (tgt := 99) rfl (fun h89 => ?_) (fun h89 => ?_)
        · refine zx_lload (pc := 99) hF d_Mod_route_99 1 rfl ?_
          refine zx_lstore (pc := 101) hF (lv' := [(5, .long c), (0, .ref m0), (7, .int (nI j))]) d_Mod_route_101 (by decide) rfl ?_
          refine zx_iinc (pc := 103) hF (v := nI (j + 1)) (lv' := [(7, .int (nI (j + 1))), (5, .long c), (0, .ref m0)]) d_Mod_route_103 2 rfl (zinc j) (by decide) rfl ?_
          refine zx_goto (pc := 106) hF d_Mod_route_106 (tgt := 53) rfl ?_
          refine zx_lv [2, 1, 0] (lv' := [(0, .ref m0), (5, .long c), (7, .int (nI (j + 1)))]) rfl ?_
          exact ih (k - 1) (j + 1, c) (by omega) ⟨by first | omega | (dsimp only; omega) | dsimp only, by obtain ⟨k', rfl⟩ : ∃ k', k = k' + 1 := ⟨k - 1, by omega⟩; simpa [g_rt, h69] using hX⟩
        · exact absurd h69 h89
      · refine zx_lload (pc := 72) hF d_Mod_route_72 1 rfl ?_
        refine zx_lconst (pc := 74) hF d_Mod_route_74 k_l0 ?_
        refine zx_lcmp (pc := 75) hF d_Mod_route_75 ?_
        refine zx_if_ne (pc := 76) hF d_Mod_route_76 (tgt := 82) rfl (fun h76 => ?_) (fun h76 => ?_)
        · refine zx_aload_n (pc := 82) hF d_Mod_route_82 rfl 0 rfl ?_
          refine zg_Mod_26 (pc := 83) hF 0 rfl rfl d_Mod_route_83 ?_
          refine zx_iload (pc := 86) hF d_Mod_route_86 2 rfl ?_
          refine zx_zaldn (pc := 88) hF (i := j) 1 rfl (by omega) (by omega) d_Mod_route_88 ?_
          refine zx_if_eq (pc := 89) hF d_Mod_route_89 (tgt := 99) rfl (fun h89 => ?_) (fun h89 => ?_)
          · exact absurd h89 h69
          · refine zx_lload (pc := 92) hF d_Mod_route_92 1 rfl ?_
            refine zx_lconst (pc := 94) hF d_Mod_route_94 k_l1 ?_
            refine zx_lsub (pc := 95) hF d_Mod_route_95 ?_
            refine zx_goto (pc := 96) hF d_Mod_route_96 (tgt := 101) rfl ?_
            refine zx_lstore (pc := 101) hF (lv' := [(5, .long (c - 1)), (0, .ref m0), (7, .int (nI j))]) d_Mod_route_101 (by decide) rfl ?_
            refine zx_iinc (pc := 103) hF (v := nI (j + 1)) (lv' := [(7, .int (nI (j + 1))), (5, .long (c - 1)), (0, .ref m0)]) d_Mod_route_103 2 rfl (zinc j) (by decide) rfl ?_
            refine zx_goto (pc := 106) hF d_Mod_route_106 (tgt := 53) rfl ?_
            refine zx_lv [2, 1, 0] (lv' := [(0, .ref m0), (5, .long (c - 1)), (7, .int (nI (j + 1)))]) rfl ?_
            exact ih (k - 1) (j + 1, (c - 1)) (by omega) ⟨by first | omega | (dsimp only; omega) | dsimp only, by obtain ⟨k', rfl⟩ : ∃ k', k = k' + 1 := ⟨k - 1, by omega⟩; simpa [g_rt, h69, h76] using hX⟩
        · refine zx_iload (pc := 79) hF d_Mod_route_79 2 rfl ?_
          exact zx_iret (pc := 81) hF hr hlk (by obtain ⟨k', rfl⟩ : ∃ k', k = k' + 1 := ⟨k - 1, by omega⟩; simpa [g_rt, h69, h76] using hX) rfl d_Mod_route_81
  · replace h11 : ¬ bN ≤ j := fun z => h11 ((nI_leI (a := bN) (b := j) (by omega) (by omega)).mpr z)
    refine zx_aload_n (pc := 14) hF d_Mod_route_14 rfl 0 rfl ?_
    refine zg_Mod_26 (pc := 15) hF 0 rfl rfl d_Mod_route_15 ?_
    refine zx_iload (pc := 18) hF d_Mod_route_18 3 rfl ?_
    refine zx_zaldn (pc := 20) hF (i := j) 1 rfl (by omega) (by omega) d_Mod_route_20 ?_
    refine zx_if_eq (pc := 21) hF d_Mod_route_21 (tgt := 30) rfl (fun h21 => ?_) (fun h21 => ?_)
    · refine zx_lload_n (pc := 30) hF d_Mod_route_30 rfl 2 rfl ?_
      refine zx_lstore_n (pc := 31) hF (lv' := [(3, .long c), (0, .ref m0), (1, .long h), (5, .int (nI j))]) d_Mod_route_31 rfl (by decide) rfl ?_
      refine zx_iinc (pc := 32) hF (v := nI (j + 1)) (lv' := [(5, .int (nI (j + 1))), (3, .long c), (0, .ref m0), (1, .long h)]) d_Mod_route_32 3 rfl (zinc j) (by decide) rfl ?_
      refine zx_goto (pc := 35) hF d_Mod_route_35 (tgt := 5) rfl ?_
      refine zx_lv [2, 3, 1, 0] (lv' := [(0, .ref m0), (1, .long h), (3, .long c), (5, .int (nI (j + 1)))]) rfl ?_
      exact ihA (kA - 1) (j + 1, c) (by omega) ⟨by first | omega | (dsimp only; omega) | dsimp only, by obtain ⟨k', rfl⟩ : ∃ k', kA = k' + 1 := ⟨kA - 1, by omega⟩; simpa [g_lv, h21] using hXA⟩
    · refine zx_lload_n (pc := 24) hF d_Mod_route_24 rfl 2 rfl ?_
      refine zx_lconst (pc := 25) hF d_Mod_route_25 k_l1 ?_
      refine zx_ladd (pc := 26) hF d_Mod_route_26 ?_
      refine zx_goto (pc := 27) hF d_Mod_route_27 (tgt := 31) rfl ?_
      refine zx_lstore_n (pc := 31) hF (lv' := [(3, .long (c + 1)), (0, .ref m0), (1, .long h), (5, .int (nI j))]) d_Mod_route_31 rfl (by decide) rfl ?_
      refine zx_iinc (pc := 32) hF (v := nI (j + 1)) (lv' := [(5, .int (nI (j + 1))), (3, .long (c + 1)), (0, .ref m0), (1, .long h)]) d_Mod_route_32 3 rfl (zinc j) (by decide) rfl ?_
      refine zx_goto (pc := 35) hF d_Mod_route_35 (tgt := 5) rfl ?_
      refine zx_lv [2, 3, 1, 0] (lv' := [(0, .ref m0), (1, .long h), (3, .long (c + 1)), (5, .int (nI (j + 1)))]) rfl ?_
      exact ihA (kA - 1) (j + 1, (c + 1)) (by omega) ⟨by first | omega | (dsimp only; omega) | dsimp only, by obtain ⟨k', rfl⟩ : ∃ k', kA = k' + 1 := ⟨kA - 1, by omega⟩; simpa [g_lv, h21] using hXA⟩
