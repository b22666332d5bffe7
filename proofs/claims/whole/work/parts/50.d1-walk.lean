set_option maxRecDepth 20000 in
theorem M_Mod_ups (l : Launch) (D : va_G) (K : Nat → ClassId) (M : List (ClassId × FieldType)) (m0 : Nat) (bN : Nat) (sN0 : Nat) (pN : Nat) (k0 : Int64) (k1 : Int64) (now : Int32) (x_wd : Nat) (x_beg : Nat) (x_std : Nat) (x_dea : Nat) (x_frm : Nat) (x_alv : Nat) (x_stm : Nat) (x_mov : Nat) (x_dwn : Nat) (x_ctd : Nat) (x_cutm : Nat) (x_pha : Nat) (x_usd : Nat) (x_gol : Nat) (x_esr : Nat) (x_epo : Nat) (x_offm : Nat) (x_ast : Nat) (x_opn : Nat) (x_ssr : Nat) (x_spo : Nat) (x_awa : Nat) (x_dat : Nat) (kpt : Int32) (x_hd : Nat) (by0 : Int32) (to0 : Int32) (rep : Int32) (had : Int32) (ost : Int32) (bst : Int32) (x_inr : Nat) (dwn : Nat → Int32) (b : Nat) (hB : bN ≤ 4) (hS : 0 < sN0 ∧ sN0 ≤ 8) (hb : b < bN) (sz : Nat) : zM l y_Mod_ups (zT y_Mod_ups b_Mod_ups 4 (some .int)) (zR 0 0) 0 0 D K M [.ref m0, .int (nI b)] [cO m0 11 [.int (nI bN), .int (nI sN0), .int (nI pN), .long k0, .long k1, .int now, .ref x_wd, .ref x_beg, .ref x_std, .ref x_dea, .ref x_frm, .ref x_alv, .ref x_stm, .ref x_mov, .ref x_dwn, .ref x_ctd, .ref x_cutm, .ref x_pha, .ref x_usd, .ref x_gol, .ref x_esr, .ref x_epo, .ref x_offm, .ref x_ast, .ref x_opn, .ref x_ssr, .ref x_spo, .ref x_awa, .ref x_dat, .int kpt, .ref x_hd, .int by0, .int to0, .int rep, .int had, .int ost, .int bst, .ref x_inr], cZ K x_dwn 32 dwn] sz (zQi D K M (nI (g_ups (g_sh dwn b) sN0)) [cO m0 11 [.int (nI bN), .int (nI sN0), .int (nI pN), .long k0, .long k1, .int now, .ref x_wd, .ref x_beg, .ref x_std, .ref x_dea, .ref x_frm, .ref x_alv, .ref x_stm, .ref x_mov, .ref x_dwn, .ref x_ctd, .ref x_cutm, .ref x_pha, .ref x_usd, .ref x_gol, .ref x_esr, .ref x_epo, .ref x_offm, .ref x_ast, .ref x_opn, .ref x_ssr, .ref x_spo, .ref x_awa, .ref x_dat, .int kpt, .ref x_hd, .int by0, .int to0, .int rep, .int had, .int ost, .int bst, .ref x_inr], cZ K x_dwn 32 dwn]) := by
  refine zx_head (by decide) (Nat.le_of_ble_eq_true rfl) ?_
  intro _ _ _ _ _ _ _ _ _ hF hr hlk hnm
  refine zx_iconst (pc := 0) hF d_Mod_ups_0 k_i0 ?_
  refine zx_istore_n (pc := 1) hF (lv' := [(2, .int 0), (0, .ref m0), (1, .int (nI b))]) d_Mod_ups_1 rfl (by decide) rfl ?_
  refine zx_iconst (pc := 2) hF d_Mod_ups_2 k_i0 ?_
  refine zx_istore_n (pc := 3) hF (lv' := [(3, .int 0), (2, .int 0), (0, .ref m0), (1, .int (nI b))]) d_Mod_ups_3 rfl (by decide) rfl ?_
  refine zx_lv [2, 3, 1, 0] (lv' := [(0, .ref m0), (1, .int (nI b)), (2, .int 0), (3, .int 0)]) rfl ?_
  refine zx_loop (pc := 4) (σ := Nat × Nat) (fun k zv => (zv.1 + k = sN0) ∧ (f_count (fun k => g_sh dwn b k == 0) k zv.1 zv.2 = g_ups (g_sh dwn b) sN0)) (fun zv => [cO m0 11 [.int (nI bN), .int (nI sN0), .int (nI pN), .long k0, .long k1, .int now, .ref x_wd, .ref x_beg, .ref x_std, .ref x_dea, .ref x_frm, .ref x_alv, .ref x_stm, .ref x_mov, .ref x_dwn, .ref x_ctd, .ref x_cutm, .ref x_pha, .ref x_usd, .ref x_gol, .ref x_esr, .ref x_epo, .ref x_offm, .ref x_ast, .ref x_opn, .ref x_ssr, .ref x_spo, .ref x_awa, .ref x_dat, .int kpt, .ref x_hd, .int by0, .int to0, .int rep, .int had, .int ost, .int bst, .ref x_inr], cZ K x_dwn 32 dwn]) (fun zv => [(0, .ref m0), (1, .int (nI b)), (2, .int (nI zv.2)), (3, .int (nI zv.1))]) sN0 (0, 0) ⟨by first | omega | (dsimp only; omega) | dsimp only, rfl⟩ rfl rfl ?_
  intro k zv hI ih
  obtain ⟨j, c⟩ := zv
  obtain ⟨hk, hX⟩ := hI
  replace hk : j + k = sN0 := hk
  replace hX : f_count (fun k => g_sh dwn b k == 0) k j c = g_ups (g_sh dwn b) sN0 := hX
  refine zx_eq (ws' := [cO m0 11 [.int (nI bN), .int (nI sN0), .int (nI pN), .long k0, .long k1, .int now, .ref x_wd, .ref x_beg, .ref x_std, .ref x_dea, .ref x_frm, .ref x_alv, .ref x_stm, .ref x_mov, .ref x_dwn, .ref x_ctd, .ref x_cutm, .ref x_pha, .ref x_usd, .ref x_gol, .ref x_esr, .ref x_epo, .ref x_offm, .ref x_ast, .ref x_opn, .ref x_ssr, .ref x_spo, .ref x_awa, .ref x_dat, .int kpt, .ref x_hd, .int by0, .int to0, .int rep, .int had, .int ost, .int bst, .ref x_inr], cZ K x_dwn 32 dwn]) (lv' := [(0, .ref m0), (1, .int (nI b)), (2, .int (nI c)), (3, .int (nI j))]) rfl rfl rfl ?_
  refine zx_iload_n (pc := 4) hF d_Mod_ups_4 rfl 3 rfl ?_
  refine zx_aload_n (pc := 5) hF d_Mod_ups_5 rfl 0 rfl ?_
  refine zg_Mod_104 (pc := 6) hF 0 rfl rfl d_Mod_ups_6 ?_
  refine zx_icmp_ge (pc := 9) hF d_Mod_ups_9 (tgt := 40) rfl (fun h9 => ?_) (fun h9 => ?_)
  · replace h9 : sN0 ≤ j := (nI_leI (a := sN0) (b := j) (by omega) (by omega)).mp h9
    refine zx_iload_n (pc := 40) hF d_Mod_ups_40 rfl 2 rfl ?_
    exact zx_iret (pc := 41) hF hr hlk (by obtain rfl : k = 0 := (by omega); rw [← hX]; rfl) rfl d_Mod_ups_41
  · replace h9 : ¬ sN0 ≤ j := fun z => h9 ((nI_leI (a := sN0) (b := j) (by omega) (by omega)).mpr z)
    refine zx_aload_n (pc := 12) hF d_Mod_ups_12 rfl 0 rfl ?_
    refine zg_Mod_36 (pc := 13) hF 0 rfl rfl d_Mod_ups_13 ?_
    refine zx_bipush (pc := 16) hF d_Mod_ups_16 k_b8 ?_
    refine zx_iload_n (pc := 18) hF d_Mod_ups_18 rfl 1 rfl ?_
    refine zx_imul (pc := 19) hF d_Mod_ups_19 ?_
    refine zx_topi (nI (8 * b)) (pk_mul 8 b) ?_
    refine zx_iload_n (pc := 20) hF d_Mod_ups_20 rfl 3 rfl ?_
    refine zx_iadd (pc := 21) hF d_Mod_ups_21 ?_
    refine zx_topi (nI ((8 * b) + j)) (nI_add (8 * b) j) ?_
    refine zx_zaldn (pc := 22) hF (i := (8 * b) + j) 1 rfl (by omega) (by omega) d_Mod_ups_22 ?_
    refine zx_if_eq (pc := 23) hF d_Mod_ups_23 (tgt := 30) rfl (fun h23 => ?_) (fun h23 => ?_)
    · refine zx_iload_n (pc := 30) hF d_Mod_ups_30 rfl 2 rfl ?_
      refine zx_iconst (pc := 31) hF d_Mod_ups_31 k_i1 ?_
      refine zx_iadd (pc := 32) hF d_Mod_ups_32 ?_
      refine zx_topi (nI (c + 1)) (nI_add c 1) ?_
      refine zx_istore_n (pc := 33) hF (lv' := [(2, .int (nI (c + 1))), (0, .ref m0), (1, .int (nI b)), (3, .int (nI j))]) d_Mod_ups_33 rfl (by decide) rfl ?_
      refine zx_iinc (pc := 34) hF (v := nI (j + 1)) (lv' := [(3, .int (nI (j + 1))), (2, .int (nI (c + 1))), (0, .ref m0), (1, .int (nI b))]) d_Mod_ups_34 3 rfl (zinc j) (by decide) rfl ?_
      refine zx_goto (pc := 37) hF d_Mod_ups_37 (tgt := 4) rfl ?_
      refine zx_lv [2, 3, 1, 0] (lv' := [(0, .ref m0), (1, .int (nI b)), (2, .int (nI (c + 1))), (3, .int (nI (j + 1)))]) rfl ?_
      exact ih (k - 1) (j + 1, c + 1) (by omega) ⟨by first | omega | (dsimp only; omega) | dsimp only, by obtain ⟨k', rfl⟩ : ∃ k', k = k' + 1 := ⟨k - 1, by omega⟩; simpa [f_count, g_sh, h23] using hX⟩
    · refine zx_iload_n (pc := 26) hF d_Mod_ups_26 rfl 2 rfl ?_
      refine zx_goto (pc := 27) hF d_Mod_ups_27 (tgt := 33) rfl ?_
      refine zx_istore_n (pc := 33) hF (lv' := [(2, .int (nI c)), (0, .ref m0), (1, .int (nI b)), (3, .int (nI j))]) d_Mod_ups_33 rfl (by decide) rfl ?_
      refine zx_iinc (pc := 34) hF (v := nI (j + 1)) (lv' := [(3, .int (nI (j + 1))), (2, .int (nI c)), (0, .ref m0), (1, .int (nI b))]) d_Mod_ups_34 3 rfl (zinc j) (by decide) rfl ?_
      refine zx_goto (pc := 37) hF d_Mod_ups_37 (tgt := 4) rfl ?_
      refine zx_lv [2, 3, 1, 0] (lv' := [(0, .ref m0), (1, .int (nI b)), (2, .int (nI c)), (3, .int (nI (j + 1)))]) rfl ?_
      exact ih (k - 1) (j + 1, c) (by omega) ⟨by first | omega | (dsimp only; omega) | dsimp only, by obtain ⟨k', rfl⟩ : ∃ k', k = k' + 1 := ⟨k - 1, by omega⟩; simpa [f_count, g_sh, h23] using hX⟩
set_option maxRecDepth 20000 in
theorem M_Mod_wish (l : Launch) (D : va_G) (K : Nat → ClassId) (M : List (ClassId × FieldType)) (m0 : Nat) (bN : Nat) (sN0 : Nat) (pN : Nat) (k0 : Int64) (k1 : Int64) (now : Int32) (x_wd : Nat) (x_beg : Nat) (x_std : Nat) (x_dea : Nat) (x_frm : Nat) (x_alv : Nat) (x_stm : Nat) (x_mov : Nat) (x_dwn : Nat) (x_ctd : Nat) (x_cutm : Nat) (x_pha : Nat) (x_usd : Nat) (x_gol : Nat) (x_esr : Nat) (x_epo : Nat) (x_offm : Nat) (x_ast : Nat) (x_opn : Nat) (x_ssr : Nat) (x_spo : Nat) (x_awa : Nat) (x_dat : Nat) (kpt : Int32) (x_hd : Nat) (by0 : Int32) (to0 : Int32) (rep : Int32) (had : Int32) (ost : Int32) (bst : Int32) (x_inr : Nat) (beg : Nat → Int32) (std : Nat → Int32) (dea : Nat → Int32) (fN : Nat → Nat) (sN : Nat → Nat) (q : Nat) (hB : bN ≤ 4) (hS : 0 < sN0 ∧ sN0 ≤ 8) (hP : 0 < pN ∧ pN ≤ 101) (hL : f_LN beg std fN sN pN sN0) (hq : q < sN0) (sz : Nat) : zM l y_Mod_wish (zT y_Mod_wish b_Mod_wish 4 (some .int)) (zR 0 0) 0 0 D K M [.ref m0, .int (nI q)] [cO m0 11 [.int (nI bN), .int (nI sN0), .int (nI pN), .long k0, .long k1, .int now, .ref x_wd, .ref x_beg, .ref x_std, .ref x_dea, .ref x_frm, .ref x_alv, .ref x_stm, .ref x_mov, .ref x_dwn, .ref x_ctd, .ref x_cutm, .ref x_pha, .ref x_usd, .ref x_gol, .ref x_esr, .ref x_epo, .ref x_offm, .ref x_ast, .ref x_opn, .ref x_ssr, .ref x_spo, .ref x_awa, .ref x_dat, .int kpt, .ref x_hd, .int by0, .int to0, .int rep, .int had, .int ost, .int bst, .ref x_inr], cI K x_beg 8 beg, cI K x_std 8 std, cI K x_dea 101 dea] sz (zQi D K M (g_wish dea (f_pl fN sN pN q) pN 0) [cO m0 11 [.int (nI bN), .int (nI sN0), .int (nI pN), .long k0, .long k1, .int now, .ref x_wd, .ref x_beg, .ref x_std, .ref x_dea, .ref x_frm, .ref x_alv, .ref x_stm, .ref x_mov, .ref x_dwn, .ref x_ctd, .ref x_cutm, .ref x_pha, .ref x_usd, .ref x_gol, .ref x_esr, .ref x_epo, .ref x_offm, .ref x_ast, .ref x_opn, .ref x_ssr, .ref x_spo, .ref x_awa, .ref x_dat, .int kpt, .ref x_hd, .int by0, .int to0, .int rep, .int had, .int ost, .int bst, .ref x_inr], cI K x_beg 8 beg, cI K x_std 8 std, cI K x_dea 101 dea]) := by
  refine zx_head (by decide) (Nat.le_of_ble_eq_true rfl) ?_
  intro _ _ _ _ _ _ _ _ _ hF hr hlk hnm
  refine zx_iconst (pc := 0) hF d_Mod_wish_0 k_i0 ?_
  refine zx_istore_n (pc := 1) hF (lv' := [(2, .int 0), (0, .ref m0), (1, .int (nI q))]) d_Mod_wish_1 rfl (by decide) rfl ?_
  refine zx_lv [1, 2, 0] (lv' := [(0, .ref m0), (1, .int (nI q)), (2, .int 0)]) rfl ?_
  refine zx_loop (pc := 2) (σ := Nat) (fun k zv => (zv + k = pN) ∧ (g_wish dea (f_pl fN sN pN q) k zv = g_wish dea (f_pl fN sN pN q) pN 0)) (fun zv => [cO m0 11 [.int (nI bN), .int (nI sN0), .int (nI pN), .long k0, .long k1, .int now, .ref x_wd, .ref x_beg, .ref x_std, .ref x_dea, .ref x_frm, .ref x_alv, .ref x_stm, .ref x_mov, .ref x_dwn, .ref x_ctd, .ref x_cutm, .ref x_pha, .ref x_usd, .ref x_gol, .ref x_esr, .ref x_epo, .ref x_offm, .ref x_ast, .ref x_opn, .ref x_ssr, .ref x_spo, .ref x_awa, .ref x_dat, .int kpt, .ref x_hd, .int by0, .int to0, .int rep, .int had, .int ost, .int bst, .ref x_inr], cI K x_beg 8 beg, cI K x_std 8 std, cI K x_dea 101 dea]) (fun zv => [(0, .ref m0), (1, .int (nI q)), (2, .int (nI zv))]) pN 0 ⟨by first | omega | (dsimp only; omega) | dsimp only, rfl⟩ rfl rfl ?_
  intro k j hI ih
  obtain ⟨hk, hX⟩ := hI
  replace hk : j + k = pN := hk
  replace hX : g_wish dea (f_pl fN sN pN q) k j = g_wish dea (f_pl fN sN pN q) pN 0 := hX
  refine zx_eq (ws' := [cO m0 11 [.int (nI bN), .int (nI sN0), .int (nI pN), .long k0, .long k1, .int now, .ref x_wd, .ref x_beg, .ref x_std, .ref x_dea, .ref x_frm, .ref x_alv, .ref x_stm, .ref x_mov, .ref x_dwn, .ref x_ctd, .ref x_cutm, .ref x_pha, .ref x_usd, .ref x_gol, .ref x_esr, .ref x_epo, .ref x_offm, .ref x_ast, .ref x_opn, .ref x_ssr, .ref x_spo, .ref x_awa, .ref x_dat, .int kpt, .ref x_hd, .int by0, .int to0, .int rep, .int had, .int ost, .int bst, .ref x_inr], cI K x_beg 8 beg, cI K x_std 8 std, cI K x_dea 101 dea]) (lv' := [(0, .ref m0), (1, .int (nI q)), (2, .int (nI j))]) rfl rfl rfl ?_
  refine zx_iload_n (pc := 2) hF d_Mod_wish_2 rfl 2 rfl ?_
  refine zx_aload_n (pc := 3) hF d_Mod_wish_3 rfl 0 rfl ?_
  refine zg_Mod_107 (pc := 4) hF 0 rfl rfl d_Mod_wish_4 ?_
  refine zx_icmp_ge (pc := 7) hF d_Mod_wish_7 (tgt := 48) rfl (fun h7 => ?_) (fun h7 => ?_)
  · replace h7 : pN ≤ j := (nI_leI (a := pN) (b := j) (by omega) (by omega)).mp h7
    refine zx_iconst (pc := 48) hF d_Mod_wish_48 k_im1 ?_
    exact zx_iret (pc := 49) hF hr hlk (by obtain rfl : k = 0 := (by omega); exact hX) rfl d_Mod_wish_49
  · replace h7 : ¬ pN ≤ j := fun z => h7 ((nI_leI (a := pN) (b := j) (by omega) (by omega)).mpr z)
    refine zx_aload_n (pc := 10) hF d_Mod_wish_10 rfl 0 rfl ?_
    refine zg_Mod_13 (pc := 11) hF 0 rfl rfl d_Mod_wish_11 ?_
    refine zx_iload_n (pc := 14) hF d_Mod_wish_14 rfl 1 rfl ?_
    refine zx_ialdn (pc := 15) hF (i := q) 1 rfl (by omega) (by omega) d_Mod_wish_15 ?_
    refine zx_iload_n (pc := 16) hF d_Mod_wish_16 rfl 2 rfl ?_
    refine zx_aload_n (pc := 17) hF d_Mod_wish_17 rfl 0 rfl ?_
    refine zg_Mod_17 (pc := 18) hF 0 rfl rfl d_Mod_wish_18 ?_
    refine zx_iload_n (pc := 21) hF d_Mod_wish_21 rfl 1 rfl ?_
    refine zx_ialdn (pc := 22) hF (i := q) 2 rfl (by omega) (by omega) d_Mod_wish_22 ?_
    refine zx_imul (pc := 23) hF d_Mod_wish_23 ?_
    refine zx_iadd (pc := 24) hF d_Mod_wish_24 ?_
    refine zx_aload_n (pc := 25) hF d_Mod_wish_25 rfl 0 rfl ?_
    refine zg_Mod_107 (pc := 26) hF 0 rfl rfl d_Mod_wish_26 ?_
    refine zx_irem (pc := 29) hF d_Mod_wish_29 (nI_ne0 hP.1 (by omega)) ?_
    refine zx_topi (nI (f_pl fN sN pN q j)) (f_pl_eq hL hP hq (by omega)) ?_
    refine zx_istore_n (pc := 30) hF (lv' := [(3, .int (nI (f_pl fN sN pN q j))), (0, .ref m0), (1, .int (nI q)), (2, .int (nI j))]) d_Mod_wish_30 rfl (by decide) rfl ?_
    refine zx_aload_n (pc := 31) hF d_Mod_wish_31 rfl 1 rfl ?_
    refine zg_Mod_20 (pc := 32) hF 0 rfl rfl d_Mod_wish_32 ?_
    refine zx_iload_n (pc := 35) hF d_Mod_wish_35 rfl 0 rfl ?_
    refine zx_ialdn (pc := 36) hF (i := f_pl fN sN pN q j) 3 rfl (Nat.lt_of_lt_of_le (f_pl_lt hP.1) (by omega)) (by omega) d_Mod_wish_36 ?_
    refine zx_if_ge (pc := 37) hF d_Mod_wish_37 (tgt := 42) rfl (fun h37 => ?_) (fun h37 => ?_)
    · refine zx_iinc (pc := 42) hF (v := nI (j + 1)) (lv' := [(2, .int (nI (j + 1))), (3, .int (nI (f_pl fN sN pN q j))), (0, .ref m0), (1, .int (nI q))]) d_Mod_wish_42 3 rfl (zinc j) (by decide) rfl ?_
      refine zx_goto (pc := 45) hF d_Mod_wish_45 (tgt := 2) rfl ?_
      refine zx_lv [2, 3, 0] (lv' := [(0, .ref m0), (1, .int (nI q)), (2, .int (nI (j + 1)))]) rfl ?_
      exact ih (k - 1) (j + 1) (by omega) ⟨by first | omega | (dsimp only; omega) | dsimp only, by obtain ⟨k', rfl⟩ : ∃ k', k = k' + 1 := ⟨k - 1, by omega⟩; simpa [g_wish, Int32.not_lt.mpr h37] using hX⟩
    · refine zx_iload_n (pc := 40) hF d_Mod_wish_40 rfl 0 rfl ?_
      exact zx_iret (pc := 41) hF hr hlk (by obtain ⟨k', rfl⟩ : ∃ k', k = k' + 1 := ⟨k - 1, by omega⟩; simpa [g_wish, Int32.not_le.mp h37] using hX) rfl d_Mod_wish_41
