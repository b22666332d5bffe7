set_option maxRecDepth 20000 in
theorem M_Mod_session (l : Launch) (D : va_G) (K : Nat → ClassId) (M : List (ClassId × FieldType)) (m0 : Nat) (bN : Nat) (sN0 : Nat) (pN : Nat) (k0 : Int64) (k1 : Int64) (now : Int32) (x_wd : Nat) (x_beg : Nat) (x_std : Nat) (x_dea : Nat) (x_frm : Nat) (x_alv : Nat) (x_stm : Nat) (x_mov : Nat) (x_dwn : Nat) (x_ctd : Nat) (x_cutm : Nat) (x_pha : Nat) (x_usd : Nat) (x_gol : Nat) (x_esr : Nat) (x_epo : Nat) (x_offm : Nat) (x_ast : Nat) (x_opn : Nat) (x_ssr : Nat) (x_spo : Nat) (x_awa : Nat) (x_dat : Nat) (kpt : Int32) (x_hd : Nat) (by0 : Int32) (to0 : Int32) (rep : Int32) (had : Int32) (ost : Int32) (bst : Int32) (x_inr : Nat) (opn : Nat → Int32) (ssr : Nat → Int32) (spo : Nat → Int32) (hd : Nat → Int32) (q : Nat) (p0 : Int32) (hB : bN ≤ 4) (hS : 0 < sN0 ∧ sN0 ≤ 8) (hq : q < sN0) (sz : Nat) : zM l y_Mod_session (zT y_Mod_session b_Mod_session 4 (some .int)) (zR 0 0) 0 0 D K M [.ref m0, .int (nI q), .int p0] [cO m0 11 [.int (nI bN), .int (nI sN0), .int (nI pN), .long k0, .long k1, .int now, .ref x_wd, .ref x_beg, .ref x_std, .ref x_dea, .ref x_frm, .ref x_alv, .ref x_stm, .ref x_mov, .ref x_dwn, .ref x_ctd, .ref x_cutm, .ref x_pha, .ref x_usd, .ref x_gol, .ref x_esr, .ref x_epo, .ref x_offm, .ref x_ast, .ref x_opn, .ref x_ssr, .ref x_spo, .ref x_awa, .ref x_dat, .int kpt, .ref x_hd, .int by0, .int to0, .int rep, .int had, .int ost, .int bst, .ref x_inr], cZ K x_opn 80 opn, cI K x_ssr 80 ssr, cI K x_spo 80 spo, cI K x_hd 5 hd] sz (zQi D K M (g_sess opn ssr spo q (hd 3) p0) [cO m0 11 [.int (nI bN), .int (nI sN0), .int (nI pN), .long k0, .long k1, .int now, .ref x_wd, .ref x_beg, .ref x_std, .ref x_dea, .ref x_frm, .ref x_alv, .ref x_stm, .ref x_mov, .ref x_dwn, .ref x_ctd, .ref x_cutm, .ref x_pha, .ref x_usd, .ref x_gol, .ref x_esr, .ref x_epo, .ref x_offm, .ref x_ast, .ref x_opn, .ref x_ssr, .ref x_spo, .ref x_awa, .ref x_dat, .int kpt, .ref x_hd, .int by0, .int to0, .int rep, .int had, .int ost, .int bst, .ref x_inr], cZ K x_opn 80 opn, cI K x_ssr 80 ssr, cI K x_spo 80 spo, cI K x_hd 5 hd]) := by
  refine zx_head (by decide) (Nat.le_of_ble_eq_true rfl) ?_
  intro _ _ _ _ _ _ _ _ _ hF hr hlk hnm
  refine zx_bipush (pc := 0) hF d_Mod_session_0 k_b10 ?_
  refine zx_iload_n (pc := 2) hF d_Mod_session_2 rfl 1 rfl ?_
  refine zx_imul (pc := 3) hF d_Mod_session_3 ?_
  refine zx_topi (nI (10 * q)) (pk_mul 10 q) ?_
  refine zx_istore_n (pc := 4) hF (lv' := [(3, .int (nI (10 * q))), (0, .ref m0), (1, .int (nI q)), (2, .int p0)]) d_Mod_session_4 rfl (by decide) rfl ?_
  refine zx_lv [1, 2, 3, 0] (lv' := [(0, .ref m0), (1, .int (nI q)), (2, .int p0), (3, .int (nI (10 * q)))]) rfl ?_
  refine zx_loop (pc := 5) (σ := Nat) (fun k zv => (zv + k = 10 * q + 10) ∧ (f_first (f_same opn ssr spo (hd 3) p0) k zv = g_sess opn ssr spo q (hd 3) p0) ∧ (10 * q ≤ zv)) (fun zv => [cO m0 11 [.int (nI bN), .int (nI sN0), .int (nI pN), .long k0, .long k1, .int now, .ref x_wd, .ref x_beg, .ref x_std, .ref x_dea, .ref x_frm, .ref x_alv, .ref x_stm, .ref x_mov, .ref x_dwn, .ref x_ctd, .ref x_cutm, .ref x_pha, .ref x_usd, .ref x_gol, .ref x_esr, .ref x_epo, .ref x_offm, .ref x_ast, .ref x_opn, .ref x_ssr, .ref x_spo, .ref x_awa, .ref x_dat, .int kpt, .ref x_hd, .int by0, .int to0, .int rep, .int had, .int ost, .int bst, .ref x_inr], cZ K x_opn 80 opn, cI K x_ssr 80 ssr, cI K x_spo 80 spo, cI K x_hd 5 hd]) (fun zv => [(0, .ref m0), (1, .int (nI q)), (2, .int p0), (3, .int (nI zv))]) 10 (10 * q) ⟨by first | omega | (dsimp only; omega) | dsimp only, rfl, by first | omega | (dsimp only; omega) | dsimp only⟩ rfl rfl ?_
  intro k e hI ih
  obtain ⟨hk, hX, hb0⟩ := hI
  replace hk : e + k = 10 * q + 10 := hk
  replace hX : f_first (f_same opn ssr spo (hd 3) p0) k e = g_sess opn ssr spo q (hd 3) p0 := hX
  replace hb0 : 10 * q ≤ e := hb0
  refine zx_eq (ws' := [cO m0 11 [.int (nI bN), .int (nI sN0), .int (nI pN), .long k0, .long k1, .int now, .ref x_wd, .ref x_beg, .ref x_std, .ref x_dea, .ref x_frm, .ref x_alv, .ref x_stm, .ref x_mov, .ref x_dwn, .ref x_ctd, .ref x_cutm, .ref x_pha, .ref x_usd, .ref x_gol, .ref x_esr, .ref x_epo, .ref x_offm, .ref x_ast, .ref x_opn, .ref x_ssr, .ref x_spo, .ref x_awa, .ref x_dat, .int kpt, .ref x_hd, .int by0, .int to0, .int rep, .int had, .int ost, .int bst, .ref x_inr], cZ K x_opn 80 opn, cI K x_ssr 80 ssr, cI K x_spo 80 spo, cI K x_hd 5 hd]) (lv' := [(0, .ref m0), (1, .int (nI q)), (2, .int p0), (3, .int (nI e))]) rfl rfl rfl ?_
  refine zx_iload_n (pc := 5) hF d_Mod_session_5 rfl 3 rfl ?_
  refine zx_bipush (pc := 6) hF d_Mod_session_6 k_b10 ?_
  refine zx_iload_n (pc := 8) hF d_Mod_session_8 rfl 1 rfl ?_
  refine zx_imul (pc := 9) hF d_Mod_session_9 ?_
  refine zx_topi (nI (10 * q)) (pk_mul 10 q) ?_
  refine zx_bipush (pc := 10) hF d_Mod_session_10 k_b10 ?_
  refine zx_iadd (pc := 12) hF d_Mod_session_12 ?_
  refine zx_topi (nI ((10 * q) + 10)) (nI_add (10 * q) 10) ?_
  refine zx_icmp_ge (pc := 13) hF d_Mod_session_13 (tgt := 58) rfl (fun h13 => ?_) (fun h13 => ?_)
  · replace h13 : ((10 * q) + 10) ≤ e := (nI_leI (a := (10 * q) + 10) (b := e) (by omega) (by omega)).mp h13
    refine zx_iconst (pc := 58) hF d_Mod_session_58 k_im1 ?_
    exact zx_iret (pc := 59) hF hr hlk (by obtain rfl : k = 0 := (by omega); exact hX) rfl d_Mod_session_59
  · replace h13 : ¬ ((10 * q) + 10) ≤ e := fun z => h13 ((nI_leI (a := (10 * q) + 10) (b := e) (by omega) (by omega)).mpr z)
    refine zx_aload_n (pc := 16) hF d_Mod_session_16 rfl 0 rfl ?_
    refine zg_Mod_66 (pc := 17) hF 0 rfl rfl d_Mod_session_17 ?_
    refine zx_iload_n (pc := 20) hF d_Mod_session_20 rfl 3 rfl ?_
    refine zx_zaldn (pc := 21) hF (i := e) 1 rfl (by omega) (by omega) d_Mod_session_21 ?_
    refine zx_if_eq (pc := 22) hF d_Mod_session_22 (tgt := 52) rfl (fun h22 => ?_) (fun h22 => ?_)
    · refine zx_iinc (pc := 52) hF (v := nI (e + 1)) (lv' := [(3, .int (nI (e + 1))), (0, .ref m0), (1, .int (nI q)), (2, .int p0)]) d_Mod_session_52 3 rfl (zinc e) (by decide) rfl ?_
      refine zx_goto (pc := 55) hF d_Mod_session_55 (tgt := 5) rfl ?_
      refine zx_lv [1, 2, 3, 0] (lv' := [(0, .ref m0), (1, .int (nI q)), (2, .int p0), (3, .int (nI (e + 1)))]) rfl ?_
      exact ih (k - 1) (e + 1) (by omega) ⟨by first | omega | (dsimp only; omega) | dsimp only, by obtain ⟨k', rfl⟩ : ∃ k', k = k' + 1 := ⟨k - 1, by omega⟩; simpa [f_first, f_same, h13, h22] using hX, by first | omega | (dsimp only; omega) | dsimp only⟩
    · refine zx_aload_n (pc := 25) hF d_Mod_session_25 rfl 0 rfl ?_
      refine zg_Mod_69 (pc := 26) hF 0 rfl rfl d_Mod_session_26 ?_
      refine zx_iload_n (pc := 29) hF d_Mod_session_29 rfl 3 rfl ?_
      refine zx_ialdn (pc := 30) hF (i := e) 2 rfl (by omega) (by omega) d_Mod_session_30 ?_
      refine zx_aload_n (pc := 31) hF d_Mod_session_31 rfl 0 rfl ?_
      refine zg_Mod_81 (pc := 32) hF 0 rfl rfl d_Mod_session_32 ?_
      refine zx_iconst (pc := 35) hF d_Mod_session_35 k_i3 ?_
      refine zx_ialdn (pc := 36) hF (i := 3) 4 rfl (by omega) (by omega) d_Mod_session_36 ?_
      refine zx_icmp_ne (pc := 37) hF d_Mod_session_37 (tgt := 52) rfl (fun h37 => ?_) (fun h37 => ?_)
      · refine zx_iinc (pc := 52) hF (v := nI (e + 1)) (lv' := [(3, .int (nI (e + 1))), (0, .ref m0), (1, .int (nI q)), (2, .int p0)]) d_Mod_session_52 3 rfl (zinc e) (by decide) rfl ?_
        refine zx_goto (pc := 55) hF d_Mod_session_55 (tgt := 5) rfl ?_
        refine zx_lv [1, 2, 3, 0] (lv' := [(0, .ref m0), (1, .int (nI q)), (2, .int p0), (3, .int (nI (e + 1)))]) rfl ?_
        exact ih (k - 1) (e + 1) (by omega) ⟨by first | omega | (dsimp only; omega) | dsimp only, by obtain ⟨k', rfl⟩ : ∃ k', k = k' + 1 := ⟨k - 1, by omega⟩; simpa [f_first, f_same, h13, h22, h37] using hX, by first | omega | (dsimp only; omega) | dsimp only⟩
      · refine zx_aload_n (pc := 40) hF d_Mod_session_40 rfl 0 rfl ?_
        refine zg_Mod_72 (pc := 41) hF 0 rfl rfl d_Mod_session_41 ?_
        refine zx_iload_n (pc := 44) hF d_Mod_session_44 rfl 3 rfl ?_
        refine zx_ialdn (pc := 45) hF (i := e) 3 rfl (by omega) (by omega) d_Mod_session_45 ?_
        refine zx_iload_n (pc := 46) hF d_Mod_session_46 rfl 2 rfl ?_
        refine zx_icmp_ne (pc := 47) hF d_Mod_session_47 (tgt := 52) rfl (fun h47 => ?_) (fun h47 => ?_)
        · refine zx_iinc (pc := 52) hF (v := nI (e + 1)) (lv' := [(3, .int (nI (e + 1))), (0, .ref m0), (1, .int (nI q)), (2, .int p0)]) d_Mod_session_52 3 rfl (zinc e) (by decide) rfl ?_
          refine zx_goto (pc := 55) hF d_Mod_session_55 (tgt := 5) rfl ?_
          refine zx_lv [1, 2, 3, 0] (lv' := [(0, .ref m0), (1, .int (nI q)), (2, .int p0), (3, .int (nI (e + 1)))]) rfl ?_
          exact ih (k - 1) (e + 1) (by omega) ⟨by first | omega | (dsimp only; omega) | dsimp only, by obtain ⟨k', rfl⟩ : ∃ k', k = k' + 1 := ⟨k - 1, by omega⟩; simpa [f_first, f_same, h13, h22, h37, h47] using hX, by first | omega | (dsimp only; omega) | dsimp only⟩
        · refine zx_iload_n (pc := 50) hF d_Mod_session_50 rfl 3 rfl ?_
          exact zx_iret (pc := 51) hF hr hlk (by obtain ⟨k', rfl⟩ : ∃ k', k = k' + 1 := ⟨k - 1, by omega⟩; simpa [f_first, f_same, h13, h22, h37, h47] using hX) rfl d_Mod_session_51
set_option maxRecDepth 20000 in
theorem M_Mod_freeSession (l : Launch) (D : va_G) (K : Nat → ClassId) (M : List (ClassId × FieldType)) (m0 : Nat) (bN : Nat) (sN0 : Nat) (pN : Nat) (k0 : Int64) (k1 : Int64) (now : Int32) (x_wd : Nat) (x_beg : Nat) (x_std : Nat) (x_dea : Nat) (x_frm : Nat) (x_alv : Nat) (x_stm : Nat) (x_mov : Nat) (x_dwn : Nat) (x_ctd : Nat) (x_cutm : Nat) (x_pha : Nat) (x_usd : Nat) (x_gol : Nat) (x_esr : Nat) (x_epo : Nat) (x_offm : Nat) (x_ast : Nat) (x_opn : Nat) (x_ssr : Nat) (x_spo : Nat) (x_awa : Nat) (x_dat : Nat) (kpt : Int32) (x_hd : Nat) (by0 : Int32) (to0 : Int32) (rep : Int32) (had : Int32) (ost : Int32) (bst : Int32) (x_inr : Nat) (opn : Nat → Int32) (q : Nat) (hB : bN ≤ 4) (hS : 0 < sN0 ∧ sN0 ≤ 8) (hq : q < sN0) (sz : Nat) : zM l y_Mod_freeSession (zT y_Mod_freeSession b_Mod_freeSession 3 (some .int)) (zR 0 0) 0 0 D K M [.ref m0, .int (nI q)] [cO m0 11 [.int (nI bN), .int (nI sN0), .int (nI pN), .long k0, .long k1, .int now, .ref x_wd, .ref x_beg, .ref x_std, .ref x_dea, .ref x_frm, .ref x_alv, .ref x_stm, .ref x_mov, .ref x_dwn, .ref x_ctd, .ref x_cutm, .ref x_pha, .ref x_usd, .ref x_gol, .ref x_esr, .ref x_epo, .ref x_offm, .ref x_ast, .ref x_opn, .ref x_ssr, .ref x_spo, .ref x_awa, .ref x_dat, .int kpt, .ref x_hd, .int by0, .int to0, .int rep, .int had, .int ost, .int bst, .ref x_inr], cZ K x_opn 80 opn] sz (zQi D K M (g_frees opn q) [cO m0 11 [.int (nI bN), .int (nI sN0), .int (nI pN), .long k0, .long k1, .int now, .ref x_wd, .ref x_beg, .ref x_std, .ref x_dea, .ref x_frm, .ref x_alv, .ref x_stm, .ref x_mov, .ref x_dwn, .ref x_ctd, .ref x_cutm, .ref x_pha, .ref x_usd, .ref x_gol, .ref x_esr, .ref x_epo, .ref x_offm, .ref x_ast, .ref x_opn, .ref x_ssr, .ref x_spo, .ref x_awa, .ref x_dat, .int kpt, .ref x_hd, .int by0, .int to0, .int rep, .int had, .int ost, .int bst, .ref x_inr], cZ K x_opn 80 opn]) := by
  refine zx_head (by decide) (Nat.le_of_ble_eq_true rfl) ?_
  intro _ _ _ _ _ _ _ _ _ hF hr hlk hnm
  refine zx_bipush (pc := 0) hF d_Mod_freeSession_0 k_b10 ?_
  refine zx_iload_n (pc := 2) hF d_Mod_freeSession_2 rfl 1 rfl ?_
  refine zx_imul (pc := 3) hF d_Mod_freeSession_3 ?_
  refine zx_topi (nI (10 * q)) (pk_mul 10 q) ?_
  refine zx_istore_n (pc := 4) hF (lv' := [(2, .int (nI (10 * q))), (0, .ref m0), (1, .int (nI q))]) d_Mod_freeSession_4 rfl (by decide) rfl ?_
  refine zx_lv [1, 2, 0] (lv' := [(0, .ref m0), (1, .int (nI q)), (2, .int (nI (10 * q)))]) rfl ?_
  refine zx_loop (pc := 5) (σ := Nat) (fun k zv => (zv + k = 10 * q + 10) ∧ (f_first (fun zv => opn zv == 0) k zv = g_frees opn q) ∧ (10 * q ≤ zv)) (fun zv => [cO m0 11 [.int (nI bN), .int (nI sN0), .int (nI pN), .long k0, .long k1, .int now, .ref x_wd, .ref x_beg, .ref x_std, .ref x_dea, .ref x_frm, .ref x_alv, .ref x_stm, .ref x_mov, .ref x_dwn, .ref x_ctd, .ref x_cutm, .ref x_pha, .ref x_usd, .ref x_gol, .ref x_esr, .ref x_epo, .ref x_offm, .ref x_ast, .ref x_opn, .ref x_ssr, .ref x_spo, .ref x_awa, .ref x_dat, .int kpt, .ref x_hd, .int by0, .int to0, .int rep, .int had, .int ost, .int bst, .ref x_inr], cZ K x_opn 80 opn]) (fun zv => [(0, .ref m0), (1, .int (nI q)), (2, .int (nI zv))]) 10 (10 * q) ⟨by first | omega | (dsimp only; omega) | dsimp only, rfl, by first | omega | (dsimp only; omega) | dsimp only⟩ rfl rfl ?_
  intro k e hI ih
  obtain ⟨hk, hX, hb0⟩ := hI
  replace hk : e + k = 10 * q + 10 := hk
  replace hX : f_first (fun e => opn e == 0) k e = g_frees opn q := hX
  replace hb0 : 10 * q ≤ e := hb0
  refine zx_eq (ws' := [cO m0 11 [.int (nI bN), .int (nI sN0), .int (nI pN), .long k0, .long k1, .int now, .ref x_wd, .ref x_beg, .ref x_std, .ref x_dea, .ref x_frm, .ref x_alv, .ref x_stm, .ref x_mov, .ref x_dwn, .ref x_ctd, .ref x_cutm, .ref x_pha, .ref x_usd, .ref x_gol, .ref x_esr, .ref x_epo, .ref x_offm, .ref x_ast, .ref x_opn, .ref x_ssr, .ref x_spo, .ref x_awa, .ref x_dat, .int kpt, .ref x_hd, .int by0, .int to0, .int rep, .int had, .int ost, .int bst, .ref x_inr], cZ K x_opn 80 opn]) (lv' := [(0, .ref m0), (1, .int (nI q)), (2, .int (nI e))]) rfl rfl rfl ?_
  refine zx_iload_n (pc := 5) hF d_Mod_freeSession_5 rfl 2 rfl ?_
  refine zx_bipush (pc := 6) hF d_Mod_freeSession_6 k_b10 ?_
  refine zx_iload_n (pc := 8) hF d_Mod_freeSession_8 rfl 1 rfl ?_
  refine zx_imul (pc := 9) hF d_Mod_freeSession_9 ?_
  refine zx_topi (nI (10 * q)) (pk_mul 10 q) ?_
  refine zx_bipush (pc := 10) hF d_Mod_freeSession_10 k_b10 ?_
  refine zx_iadd (pc := 12) hF d_Mod_freeSession_12 ?_
  refine zx_topi (nI ((10 * q) + 10)) (nI_add (10 * q) 10) ?_
  refine zx_icmp_ge (pc := 13) hF d_Mod_freeSession_13 (tgt := 33) rfl (fun h13 => ?_) (fun h13 => ?_)
  · replace h13 : ((10 * q) + 10) ≤ e := (nI_leI (a := (10 * q) + 10) (b := e) (by omega) (by omega)).mp h13
    refine zx_iconst (pc := 33) hF d_Mod_freeSession_33 k_im1 ?_
    exact zx_iret (pc := 34) hF hr hlk (by obtain rfl : k = 0 := (by omega); exact hX) rfl d_Mod_freeSession_34
  · replace h13 : ¬ ((10 * q) + 10) ≤ e := fun z => h13 ((nI_leI (a := (10 * q) + 10) (b := e) (by omega) (by omega)).mpr z)
    refine zx_aload_n (pc := 16) hF d_Mod_freeSession_16 rfl 0 rfl ?_
    refine zg_Mod_66 (pc := 17) hF 0 rfl rfl d_Mod_freeSession_17 ?_
    refine zx_iload_n (pc := 20) hF d_Mod_freeSession_20 rfl 2 rfl ?_
    refine zx_zaldn (pc := 21) hF (i := e) 1 rfl (by omega) (by omega) d_Mod_freeSession_21 ?_
    refine zx_if_ne (pc := 22) hF d_Mod_freeSession_22 (tgt := 27) rfl (fun h22 => ?_) (fun h22 => ?_)
    · refine zx_iinc (pc := 27) hF (v := nI (e + 1)) (lv' := [(2, .int (nI (e + 1))), (0, .ref m0), (1, .int (nI q))]) d_Mod_freeSession_27 2 rfl (zinc e) (by decide) rfl ?_
      refine zx_goto (pc := 30) hF d_Mod_freeSession_30 (tgt := 5) rfl ?_
      refine zx_lv [1, 2, 0] (lv' := [(0, .ref m0), (1, .int (nI q)), (2, .int (nI (e + 1)))]) rfl ?_
      exact ih (k - 1) (e + 1) (by omega) ⟨by first | omega | (dsimp only; omega) | dsimp only, by obtain ⟨k', rfl⟩ : ∃ k', k = k' + 1 := ⟨k - 1, by omega⟩; simpa [f_first, h13, h22] using hX, by first | omega | (dsimp only; omega) | dsimp only⟩
    · refine zx_iload_n (pc := 25) hF d_Mod_freeSession_25 rfl 2 rfl ?_
      exact zx_iret (pc := 26) hF hr hlk (by obtain ⟨k', rfl⟩ : ∃ k', k = k' + 1 := ⟨k - 1, by omega⟩; simpa [f_first, h13, h22] using hX) rfl d_Mod_freeSession_26
set_option maxRecDepth 20000 in
theorem M_Mod_entry (l : Launch) (D : va_G) (K : Nat → ClassId) (M : List (ClassId × FieldType)) (m0 : Nat) (bN : Nat) (sN0 : Nat) (pN : Nat) (k0 : Int64) (k1 : Int64) (now : Int32) (x_wd : Nat) (x_beg : Nat) (x_std : Nat) (x_dea : Nat) (x_frm : Nat) (x_alv : Nat) (x_stm : Nat) (x_mov : Nat) (x_dwn : Nat) (x_ctd : Nat) (x_cutm : Nat) (x_pha : Nat) (x_usd : Nat) (x_gol : Nat) (x_esr : Nat) (x_epo : Nat) (x_offm : Nat) (x_ast : Nat) (x_opn : Nat) (x_ssr : Nat) (x_spo : Nat) (x_awa : Nat) (x_dat : Nat) (kpt : Int32) (x_hd : Nat) (by0 : Int32) (to0 : Int32) (rep : Int32) (had : Int32) (ost : Int32) (bst : Int32) (x_inr : Nat) (pha : Nat → Int32) (esr : Nat → Int32) (epo : Nat → Int32) (gol : Nat → Int32) (b : Nat) (s0 : Int32) (p0 : Int32) (hB : bN ≤ 4) (hS : 0 < sN0 ∧ sN0 ≤ 8) (hb : b < bN) (sz : Nat) : zM l y_Mod_entry (zT y_Mod_entry b_Mod_entry 5 (some .int)) (zR 1 24) 0 0 D K M [.ref m0, .int (nI b), .int s0, .int p0] [cO m0 11 [.int (nI bN), .int (nI sN0), .int (nI pN), .long k0, .long k1, .int now, .ref x_wd, .ref x_beg, .ref x_std, .ref x_dea, .ref x_frm, .ref x_alv, .ref x_stm, .ref x_mov, .ref x_dwn, .ref x_ctd, .ref x_cutm, .ref x_pha, .ref x_usd, .ref x_gol, .ref x_esr, .ref x_epo, .ref x_offm, .ref x_ast, .ref x_opn, .ref x_ssr, .ref x_spo, .ref x_awa, .ref x_dat, .int kpt, .ref x_hd, .int by0, .int to0, .int rep, .int had, .int ost, .int bst, .ref x_inr], cI K x_pha 32 pha, cI K x_esr 32 esr, cI K x_epo 32 epo, cI K x_gol 32 gol] sz (zQi D K M (if g_slot pha esr epo b s0 p0 < 0 then -1 else gol (g_slot pha esr epo b s0 p0).toNatClampNeg) [cO m0 11 [.int (nI bN), .int (nI sN0), .int (nI pN), .long k0, .long k1, .int now, .ref x_wd, .ref x_beg, .ref x_std, .ref x_dea, .ref x_frm, .ref x_alv, .ref x_stm, .ref x_mov, .ref x_dwn, .ref x_ctd, .ref x_cutm, .ref x_pha, .ref x_usd, .ref x_gol, .ref x_esr, .ref x_epo, .ref x_offm, .ref x_ast, .ref x_opn, .ref x_ssr, .ref x_spo, .ref x_awa, .ref x_dat, .int kpt, .ref x_hd, .int by0, .int to0, .int rep, .int had, .int ost, .int bst, .ref x_inr], cI K x_pha 32 pha, cI K x_esr 32 esr, cI K x_epo 32 epo, cI K x_gol 32 gol]) := by
  refine zx_head (by decide) (Nat.le_of_ble_eq_true rfl) ?_
  intro _ _ _ _ _ _ _ _ _ hF hr hlk hnm
  refine zx_aload_n (pc := 0) hF d_Mod_entry_0 rfl 0 rfl ?_
  refine zx_iload_n (pc := 1) hF d_Mod_entry_1 rfl 1 rfl ?_
  refine zx_Vi (pc := 2) hF (As := [.int (nI b)]) (rest := []) (fun sz => M_Mod_isBalancer l D K M m0 bN sN0 pN k0 k1 now x_wd x_beg x_std x_dea x_frm x_alv x_stm x_mov x_dwn x_ctd x_cutm x_pha x_usd x_gol x_esr x_epo x_offm x_ast x_opn x_ssr x_spo x_awa x_dat kpt x_hd by0 to0 rep had ost bst x_inr (nI b)  sz) [0] rfl (by decide) (as := [m0]) rfl rfl (ws' := [cO m0 11 [.int (nI bN), .int (nI sN0), .int (nI pN), .long k0, .long k1, .int now, .ref x_wd, .ref x_beg, .ref x_std, .ref x_dea, .ref x_frm, .ref x_alv, .ref x_stm, .ref x_mov, .ref x_dwn, .ref x_ctd, .ref x_cutm, .ref x_pha, .ref x_usd, .ref x_gol, .ref x_esr, .ref x_epo, .ref x_offm, .ref x_ast, .ref x_opn, .ref x_ssr, .ref x_spo, .ref x_awa, .ref x_dat, .int kpt, .ref x_hd, .int by0, .int to0, .int rep, .int had, .int ost, .int bst, .ref x_inr], cI K x_pha 32 pha, cI K x_esr 32 esr, cI K x_epo 32 epo, cI K x_gol 32 gol]) rfl 0 11 rfl rfl rfl (cw_Mod_186 hF.2.2.2.2.1 rfl rfl ⟨by decide, by decide⟩) rfl rfl (Nat.le_of_ble_eq_true rfl) d_Mod_entry_2 ⟨Nat.zero_le _, Nat.zero_le _⟩ ?_
  refine zx_topi 1 (g_is_in hb (by omega)) ?_
  refine zx_if_eq (pc := 5) hF d_Mod_entry_5 (tgt := 18) rfl (fun h5 => ?_) (fun h5 => ?_)
  · exact absurd h5 (by decide)
  · refine zx_aload_n (pc := 8) hF d_Mod_entry_8 rfl 0 rfl ?_
    refine zx_iload_n (pc := 9) hF d_Mod_entry_9 rfl 1 rfl ?_
    refine zx_iload_n (pc := 10) hF d_Mod_entry_10 rfl 2 rfl ?_
    refine zx_iload_n (pc := 11) hF d_Mod_entry_11 rfl 3 rfl ?_
    refine zx_Vi (pc := 12) hF (As := [.int (nI b), .int s0, .int p0]) (rest := []) (fun sz => M_Mod_slot l D K M m0 bN sN0 pN k0 k1 now x_wd x_beg x_std x_dea x_frm x_alv x_stm x_mov x_dwn x_ctd x_cutm x_pha x_usd x_gol x_esr x_epo x_offm x_ast x_opn x_ssr x_spo x_awa x_dat kpt x_hd by0 to0 rep had ost bst x_inr pha esr epo b s0 p0 (by first | assumption | omega) (by first | assumption | omega) (by first | assumption | omega) sz) [0, 1, 2, 3] rfl (by decide) (as := [m0, x_pha, x_esr, x_epo]) rfl rfl (ws' := [cO m0 11 [.int (nI bN), .int (nI sN0), .int (nI pN), .long k0, .long k1, .int now, .ref x_wd, .ref x_beg, .ref x_std, .ref x_dea, .ref x_frm, .ref x_alv, .ref x_stm, .ref x_mov, .ref x_dwn, .ref x_ctd, .ref x_cutm, .ref x_pha, .ref x_usd, .ref x_gol, .ref x_esr, .ref x_epo, .ref x_offm, .ref x_ast, .ref x_opn, .ref x_ssr, .ref x_spo, .ref x_awa, .ref x_dat, .int kpt, .ref x_hd, .int by0, .int to0, .int rep, .int had, .int ost, .int bst, .ref x_inr], cI K x_pha 32 pha, cI K x_esr 32 esr, cI K x_epo 32 epo, cI K x_gol 32 gol]) rfl 0 11 rfl rfl rfl (cw_Mod_213 hF.2.2.2.2.1 rfl rfl ⟨by decide, by decide⟩) rfl rfl (Nat.le_of_ble_eq_true rfl) d_Mod_entry_12 ⟨Nat.zero_le _, Nat.zero_le _⟩ ?_
    refine zx_goto (pc := 15) hF d_Mod_entry_15 (tgt := 19) rfl ?_
    refine zx_istore (pc := 19) hF (lv' := [(4, .int (g_slot pha esr epo b s0 p0)), (0, .ref m0), (1, .int (nI b)), (2, .int s0), (3, .int p0)]) d_Mod_entry_19 (by decide) rfl ?_
    refine zx_iload (pc := 21) hF d_Mod_entry_21 0 rfl ?_
    refine zx_if_ge (pc := 23) hF d_Mod_entry_23 (tgt := 30) rfl (fun h23 => ?_) (fun h23 => ?_)
    · refine zx_aload_n (pc := 30) hF d_Mod_entry_30 rfl 1 rfl ?_
      refine zg_Mod_51 (pc := 31) hF 0 rfl rfl d_Mod_entry_31 ?_
      refine zx_iload (pc := 34) hF d_Mod_entry_34 0 rfl ?_
      refine zx_topi (nI (Int32.toNatClampNeg (g_slot pha esr epo b s0 p0))) ((f_first_rg (by omega) (fun z => absurd (Int32.not_le.mpr z) (fun y => y h23))).1) ?_
      refine zx_ialdn (pc := 36) hF (i := Int32.toNatClampNeg (g_slot pha esr epo b s0 p0)) 4 rfl (by have := (f_first_rg (P := g_same pha esr epo s0 p0) (k := 8) (i := 8 * b) (by omega) (fun z => absurd (Int32.not_le.mpr z) (fun y => y h23))).2.2; show Int32.toNatClampNeg (f_first (g_same pha esr epo s0 p0) 8 (8 * b)) < 32; omega) (by omega) d_Mod_entry_36 ?_
      exact zx_iret (pc := 37) hF hr hlk (by rw [if_neg (Int32.not_lt.mpr h23)]) rfl d_Mod_entry_37
    · refine zx_iconst (pc := 26) hF d_Mod_entry_26 k_im1 ?_
      refine zx_goto (pc := 27) hF d_Mod_entry_27 (tgt := 37) rfl ?_
      exact zx_iret (pc := 37) hF hr hlk (by rw [if_pos (Int32.not_le.mp h23)]) rfl d_Mod_entry_37
set_option maxRecDepth 20000 in
theorem M_Mod_entry_b (l : Launch) (D : va_G) (K : Nat → ClassId) (M : List (ClassId × FieldType)) (m0 : Nat) (bN : Nat) (sN0 : Nat) (pN : Nat) (k0 : Int64) (k1 : Int64) (now : Int32) (x_wd : Nat) (x_beg : Nat) (x_std : Nat) (x_dea : Nat) (x_frm : Nat) (x_alv : Nat) (x_stm : Nat) (x_mov : Nat) (x_dwn : Nat) (x_ctd : Nat) (x_cutm : Nat) (x_pha : Nat) (x_usd : Nat) (x_gol : Nat) (x_esr : Nat) (x_epo : Nat) (x_offm : Nat) (x_ast : Nat) (x_opn : Nat) (x_ssr : Nat) (x_spo : Nat) (x_awa : Nat) (x_dat : Nat) (kpt : Int32) (x_hd : Nat) (by0 : Int32) (to0 : Int32) (rep : Int32) (had : Int32) (ost : Int32) (bst : Int32) (x_inr : Nat) (b : Int32) (s0 : Int32) (p0 : Int32) (hb : g_is b bN = 0) (sz : Nat) : zM l y_Mod_entry (zT y_Mod_entry b_Mod_entry 5 (some .int)) (zR 1 24) 0 0 D K M [.ref m0, .int b, .int s0, .int p0] [cO m0 11 [.int (nI bN), .int (nI sN0), .int (nI pN), .long k0, .long k1, .int now, .ref x_wd, .ref x_beg, .ref x_std, .ref x_dea, .ref x_frm, .ref x_alv, .ref x_stm, .ref x_mov, .ref x_dwn, .ref x_ctd, .ref x_cutm, .ref x_pha, .ref x_usd, .ref x_gol, .ref x_esr, .ref x_epo, .ref x_offm, .ref x_ast, .ref x_opn, .ref x_ssr, .ref x_spo, .ref x_awa, .ref x_dat, .int kpt, .ref x_hd, .int by0, .int to0, .int rep, .int had, .int ost, .int bst, .ref x_inr]] sz (zQi D K M (-1) [cO m0 11 [.int (nI bN), .int (nI sN0), .int (nI pN), .long k0, .long k1, .int now, .ref x_wd, .ref x_beg, .ref x_std, .ref x_dea, .ref x_frm, .ref x_alv, .ref x_stm, .ref x_mov, .ref x_dwn, .ref x_ctd, .ref x_cutm, .ref x_pha, .ref x_usd, .ref x_gol, .ref x_esr, .ref x_epo, .ref x_offm, .ref x_ast, .ref x_opn, .ref x_ssr, .ref x_spo, .ref x_awa, .ref x_dat, .int kpt, .ref x_hd, .int by0, .int to0, .int rep, .int had, .int ost, .int bst, .ref x_inr]]) := by
  refine zx_head (by decide) (Nat.le_of_ble_eq_true rfl) ?_
  intro _ _ _ _ _ _ _ _ _ hF hr hlk hnm
  refine zx_aload_n (pc := 0) hF d_Mod_entry_0 rfl 0 rfl ?_
  refine zx_iload_n (pc := 1) hF d_Mod_entry_1 rfl 1 rfl ?_
  refine zx_Vi (pc := 2) hF (As := [.int b]) (rest := []) (fun sz => M_Mod_isBalancer l D K M m0 bN sN0 pN k0 k1 now x_wd x_beg x_std x_dea x_frm x_alv x_stm x_mov x_dwn x_ctd x_cutm x_pha x_usd x_gol x_esr x_epo x_offm x_ast x_opn x_ssr x_spo x_awa x_dat kpt x_hd by0 to0 rep had ost bst x_inr b  sz) [0] rfl (by decide) (as := [m0]) rfl rfl (ws' := [cO m0 11 [.int (nI bN), .int (nI sN0), .int (nI pN), .long k0, .long k1, .int now, .ref x_wd, .ref x_beg, .ref x_std, .ref x_dea, .ref x_frm, .ref x_alv, .ref x_stm, .ref x_mov, .ref x_dwn, .ref x_ctd, .ref x_cutm, .ref x_pha, .ref x_usd, .ref x_gol, .ref x_esr, .ref x_epo, .ref x_offm, .ref x_ast, .ref x_opn, .ref x_ssr, .ref x_spo, .ref x_awa, .ref x_dat, .int kpt, .ref x_hd, .int by0, .int to0, .int rep, .int had, .int ost, .int bst, .ref x_inr]]) rfl 0 11 rfl rfl rfl (cw_Mod_186 hF.2.2.2.2.1 rfl rfl ⟨by decide, by decide⟩) rfl rfl (Nat.le_of_ble_eq_true rfl) d_Mod_entry_2 ⟨Nat.zero_le _, Nat.zero_le _⟩ ?_
  refine zx_topi 0 (hb) ?_
  refine zx_if_eq (pc := 5) hF d_Mod_entry_5 (tgt := 18) rfl (fun h5 => ?_) (fun h5 => ?_)
  · refine zx_iconst (pc := 18) hF d_Mod_entry_18 k_im1 ?_
    refine zx_istore (pc := 19) hF (lv' := [(4, .int (-1)), (0, .ref m0), (1, .int b), (2, .int s0), (3, .int p0)]) d_Mod_entry_19 (by decide) rfl ?_
    refine zx_iload (pc := 21) hF d_Mod_entry_21 0 rfl ?_
    refine zx_if_ge (pc := 23) hF d_Mod_entry_23 (tgt := 30) rfl (fun h23 => ?_) (fun h23 => ?_)
    · exact absurd h23 (by decide)
    · refine zx_iconst (pc := 26) hF d_Mod_entry_26 k_im1 ?_
      refine zx_goto (pc := 27) hF d_Mod_entry_27 (tgt := 37) rfl ?_
      exact zx_iret (pc := 37) hF hr hlk (by first | rfl | (simp only []; done) | (simp only [↓reduceIte]; done) | simp []) (by first | rfl | (simp only []; done) | (simp only [↓reduceIte]; done) | simp []) d_Mod_entry_37
  · exact absurd h5 (by decide)
set_option maxRecDepth 20000 in
theorem M_Mod_five (l : Launch) (D : va_G) (K : Nat → ClassId) (M : List (ClassId × FieldType)) (m0 : Nat) (bN : Nat) (sN0 : Nat) (pN : Nat) (k0 : Int64) (k1 : Int64) (now : Int32) (x_wd : Nat) (x_beg : Nat) (x_std : Nat) (x_dea : Nat) (x_frm : Nat) (x_alv : Nat) (x_stm : Nat) (x_mov : Nat) (x_dwn : Nat) (x_ctd : Nat) (x_cutm : Nat) (x_pha : Nat) (x_usd : Nat) (x_gol : Nat) (x_esr : Nat) (x_epo : Nat) (x_offm : Nat) (x_ast : Nat) (x_opn : Nat) (x_ssr : Nat) (x_spo : Nat) (x_awa : Nat) (x_dat : Nat) (kpt : Int32) (x_hd : Nat) (by0 : Int32) (to0 : Int32) (rep : Int32) (had : Int32) (ost : Int32) (bst : Int32) (x_inr : Nat) (t : Int32) (f0 : Int32) (mk : Int32) (f2 : Int32) (f3 : Int32) (f4 : Int32) (sz : Nat) : zM l y_Mod_five (zT y_Mod_five b_Mod_five 9 (some .int)) (zR 2 48) 0 0 D K M [.ref m0, .int t, .int f0, .int mk, .int f2, .int f3, .int f4] [cO m0 11 [.int (nI bN), .int (nI sN0), .int (nI pN), .long k0, .long k1, .int now, .ref x_wd, .ref x_beg, .ref x_std, .ref x_dea, .ref x_frm, .ref x_alv, .ref x_stm, .ref x_mov, .ref x_dwn, .ref x_ctd, .ref x_cutm, .ref x_pha, .ref x_usd, .ref x_gol, .ref x_esr, .ref x_epo, .ref x_offm, .ref x_ast, .ref x_opn, .ref x_ssr, .ref x_spo, .ref x_awa, .ref x_dat, .int kpt, .ref x_hd, .int by0, .int to0, .int rep, .int had, .int ost, .int bst, .ref x_inr]] sz (zQi D K M (g_five t f0 mk f2 f3 f4) [cO m0 11 [.int (nI bN), .int (nI sN0), .int (nI pN), .long k0, .long k1, .int now, .ref x_wd, .ref x_beg, .ref x_std, .ref x_dea, .ref x_frm, .ref x_alv, .ref x_stm, .ref x_mov, .ref x_dwn, .ref x_ctd, .ref x_cutm, .ref x_pha, .ref x_usd, .ref x_gol, .ref x_esr, .ref x_epo, .ref x_offm, .ref x_ast, .ref x_opn, .ref x_ssr, .ref x_spo, .ref x_awa, .ref x_dat, .int kpt, .ref x_hd, .int by0, .int to0, .int rep, .int had, .int ost, .int bst, .ref x_inr]]) := by
  refine zx_head (by decide) (Nat.le_of_ble_eq_true rfl) ?_
  intro _ _ _ _ _ _ _ _ _ hF hr hlk hnm
  refine zx_iload_n (pc := 0) hF d_Mod_five_0 rfl 3 rfl ?_
  refine zx_ldc (pc := 1) hF wk_Mod_139 d_Mod_five_1 ?_
  refine zx_imul (pc := 3) hF d_Mod_five_3 ?_
  refine zx_istore (pc := 4) hF (lv' := [(7, .int (mk * 65536)), (0, .ref m0), (1, .int t), (2, .int f0), (3, .int mk), (4, .int f2), (5, .int f3), (6, .int f4)]) d_Mod_five_4 (by decide) rfl ?_
  refine zx_aload_n (pc := 6) hF d_Mod_five_6 rfl 1 rfl ?_
  refine zx_iload_n (pc := 7) hF d_Mod_five_7 rfl 3 rfl ?_
  refine zx_iload (pc := 8) hF d_Mod_five_8 0 rfl ?_
  refine zx_iload (pc := 10) hF d_Mod_five_10 5 rfl ?_
  refine zx_iload (pc := 12) hF d_Mod_five_12 6 rfl ?_
  refine zx_iload (pc := 14) hF d_Mod_five_14 7 rfl ?_
  refine zx_Vi (pc := 16) hF (As := [.int f0, .int (mk * 65536), .int f2, .int f3, .int f4]) (rest := []) (fun sz => M_Mod_checksum l D K M m0 bN sN0 pN k0 k1 now x_wd x_beg x_std x_dea x_frm x_alv x_stm x_mov x_dwn x_ctd x_cutm x_pha x_usd x_gol x_esr x_epo x_offm x_ast x_opn x_ssr x_spo x_awa x_dat kpt x_hd by0 to0 rep had ost bst x_inr f0 (mk * 65536) f2 f3 f4  sz) [0] rfl (by decide) (as := [m0]) rfl rfl (ws' := [cO m0 11 [.int (nI bN), .int (nI sN0), .int (nI pN), .long k0, .long k1, .int now, .ref x_wd, .ref x_beg, .ref x_std, .ref x_dea, .ref x_frm, .ref x_alv, .ref x_stm, .ref x_mov, .ref x_dwn, .ref x_ctd, .ref x_cutm, .ref x_pha, .ref x_usd, .ref x_gol, .ref x_esr, .ref x_epo, .ref x_offm, .ref x_ast, .ref x_opn, .ref x_ssr, .ref x_spo, .ref x_awa, .ref x_dat, .int kpt, .ref x_hd, .int by0, .int to0, .int rep, .int had, .int ost, .int bst, .ref x_inr]]) rfl 0 11 rfl rfl rfl (cw_Mod_256 hF.2.2.2.2.1 rfl rfl ⟨by decide, by decide⟩) rfl rfl (Nat.le_of_ble_eq_true rfl) d_Mod_five_16 ⟨Nat.zero_le _, Nat.zero_le _⟩ ?_
  refine zx_istore (pc := 19) hF (lv' := [(8, .int (g_cks f0 (mk * 65536) f2 f3 f4)), (7, .int (mk * 65536)), (0, .ref m0), (1, .int t), (2, .int f0), (3, .int mk), (4, .int f2), (5, .int f3), (6, .int f4)]) d_Mod_five_19 (by decide) rfl ?_
  refine zx_iload_n (pc := 21) hF d_Mod_five_21 rfl 3 rfl ?_
  refine zx_if_ne (pc := 22) hF d_Mod_five_22 (tgt := 29) rfl (fun h22 => ?_) (fun h22 => ?_)
  · refine zx_iload_n (pc := 29) hF d_Mod_five_29 rfl 3 rfl ?_
    refine zx_iconst (pc := 30) hF d_Mod_five_30 k_i1 ?_
    refine zx_icmp_ne (pc := 31) hF d_Mod_five_31 (tgt := 39) rfl (fun h31 => ?_) (fun h31 => ?_)
    · refine zx_iload_n (pc := 39) hF d_Mod_five_39 rfl 3 rfl ?_
      refine zx_iconst (pc := 40) hF d_Mod_five_40 k_i2 ?_
      refine zx_icmp_ne (pc := 41) hF d_Mod_five_41 (tgt := 52) rfl (fun h41 => ?_) (fun h41 => ?_)
      · refine zx_iload_n (pc := 52) hF d_Mod_five_52 rfl 3 rfl ?_
        refine zx_iconst (pc := 53) hF d_Mod_five_53 k_i3 ?_
        refine zx_icmp_ne (pc := 54) hF d_Mod_five_54 (tgt := 62) rfl (fun h54 => ?_) (fun h54 => ?_)
        · refine zx_iload (pc := 62) hF d_Mod_five_62 8 rfl ?_
          exact zx_iret (pc := 64) hF hr hlk (by first | with_reducible rfl | (simp only [g_five, if_neg h22, if_neg h31, if_neg h41, if_neg h54]; done) | (simp only [g_five, h22, h31, h41, h54, ↓reduceIte]; done) | simp [g_five, h22, h31, h41, h54]) (by first | with_reducible rfl | (simp only [g_five, if_neg h22, if_neg h31, if_neg h41, if_neg h54]; done) | (simp only [g_five, h22, h31, h41, h54, ↓reduceIte]; done) | simp [g_five, h22, h31, h41, h54]) d_Mod_five_64
        · refine zx_iload (pc := 57) hF d_Mod_five_57 7 rfl ?_
          refine zx_goto (pc := 59) hF d_Mod_five_59 (tgt := 64) rfl ?_
          exact zx_iret (pc := 64) hF hr hlk (by first | with_reducible rfl | (simp only [g_five, if_neg h22, if_neg h31, if_neg h41, if_pos h54]; done) | (simp only [g_five, h22, h31, h41, h54, ↓reduceIte]; done) | simp [g_five, h22, h31, h41, h54]) (by first | with_reducible rfl | (simp only [g_five, if_neg h22, if_neg h31, if_neg h41, if_pos h54]; done) | (simp only [g_five, h22, h31, h41, h54, ↓reduceIte]; done) | simp [g_five, h22, h31, h41, h54]) d_Mod_five_64
      · refine zx_iload (pc := 44) hF d_Mod_five_44 6 rfl ?_
        refine zx_iload (pc := 46) hF d_Mod_five_46 0 rfl ?_
        refine zx_iadd (pc := 48) hF d_Mod_five_48 ?_
        refine zx_goto (pc := 49) hF d_Mod_five_49 (tgt := 64) rfl ?_
        exact zx_iret (pc := 64) hF hr hlk (by first | with_reducible rfl | (simp only [g_five, if_neg h22, if_neg h31, if_pos h41]; done) | (simp only [g_five, h22, h31, h41, ↓reduceIte]; done) | simp [g_five, h22, h31, h41]) (by first | with_reducible rfl | (simp only [g_five, if_neg h22, if_neg h31, if_pos h41]; done) | (simp only [g_five, h22, h31, h41, ↓reduceIte]; done) | simp [g_five, h22, h31, h41]) d_Mod_five_64
    · refine zx_iload (pc := 34) hF d_Mod_five_34 1 rfl ?_
      refine zx_goto (pc := 36) hF d_Mod_five_36 (tgt := 64) rfl ?_
      exact zx_iret (pc := 64) hF hr hlk (by first | with_reducible rfl | (simp only [g_five, if_neg h22, if_pos h31]; done) | (simp only [g_five, h22, h31, ↓reduceIte]; done) | simp [g_five, h22, h31]) (by first | with_reducible rfl | (simp only [g_five, if_neg h22, if_pos h31]; done) | (simp only [g_five, h22, h31, ↓reduceIte]; done) | simp [g_five, h22, h31]) d_Mod_five_64
  · refine zx_iload_n (pc := 25) hF d_Mod_five_25 rfl 4 rfl ?_
    refine zx_goto (pc := 26) hF d_Mod_five_26 (tgt := 64) rfl ?_
    exact zx_iret (pc := 64) hF hr hlk (by first | with_reducible rfl | (simp only [g_five, if_pos h22]; done) | (simp only [g_five, h22, ↓reduceIte]; done) | simp [g_five, h22]) (by first | with_reducible rfl | (simp only [g_five, if_pos h22]; done) | (simp only [g_five, h22, ↓reduceIte]; done) | simp [g_five, h22]) d_Mod_five_64
