set_option maxRecDepth 20000 in
theorem M_Mod_power (l : Launch) (D : va_G) (K : Nat → ClassId) (M : List (ClassId × FieldType)) (m0 : Nat) (bN : Nat) (sN0 : Nat) (pN : Nat) (k0 : Int64) (k1 : Int64) (now : Int32) (x_wd : Nat) (x_beg : Nat) (x_std : Nat) (x_dea : Nat) (x_frm : Nat) (x_alv : Nat) (x_stm : Nat) (x_mov : Nat) (x_dwn : Nat) (x_ctd : Nat) (x_cutm : Nat) (x_pha : Nat) (x_usd : Nat) (x_gol : Nat) (x_esr : Nat) (x_epo : Nat) (x_offm : Nat) (x_ast : Nat) (x_opn : Nat) (x_ssr : Nat) (x_spo : Nat) (x_awa : Nat) (x_dat : Nat) (kpt : Int32) (x_hd : Nat) (by0 : Int32) (to0 : Int32) (rep : Int32) (had : Int32) (ost : Int32) (bst : Int32) (x_inr : Nat) (offm : Nat → Int32) (opn : Nat → Int32) (q : Nat) (o : Int32) (hB : bN ≤ 4) (hS : 0 < sN0 ∧ sN0 ≤ 8) (hq : q < sN0) (ho : o = 0 ∨ o = 1) (sz : Nat) : zM l y_Mod_power (zT y_Mod_power b_Mod_power 4 (some .boolean)) (zR 1 21) 0 0 D K M [.ref m0, .int (nI q), .int o] [cO m0 11 [.int (nI bN), .int (nI sN0), .int (nI pN), .long k0, .long k1, .int now, .ref x_wd, .ref x_beg, .ref x_std, .ref x_dea, .ref x_frm, .ref x_alv, .ref x_stm, .ref x_mov, .ref x_dwn, .ref x_ctd, .ref x_cutm, .ref x_pha, .ref x_usd, .ref x_gol, .ref x_esr, .ref x_epo, .ref x_offm, .ref x_ast, .ref x_opn, .ref x_ssr, .ref x_spo, .ref x_awa, .ref x_dat, .int kpt, .ref x_hd, .int by0, .int to0, .int rep, .int had, .int ost, .int bst, .ref x_inr], cZ K x_offm 8 offm, cZ K x_opn 80 opn] sz (zQi D K M (g_pow offm q o) [cO m0 11 [.int (nI bN), .int (nI sN0), .int (nI pN), .long k0, .long k1, .int now, .ref x_wd, .ref x_beg, .ref x_std, .ref x_dea, .ref x_frm, .ref x_alv, .ref x_stm, .ref x_mov, .ref x_dwn, .ref x_ctd, .ref x_cutm, .ref x_pha, .ref x_usd, .ref x_gol, .ref x_esr, .ref x_epo, .ref x_offm, .ref x_ast, .ref x_opn, .ref x_ssr, .ref x_spo, .ref x_awa, .ref x_dat, .int kpt, .ref x_hd, .int by0, .int to0, .int rep, .int had, .int ost, .int bst, .ref x_inr], cZ K x_offm 8 (g_poff offm q o), cZ K x_opn 80 (g_popn offm opn q o)]) := by
  refine zx_head (by decide) (Nat.le_of_ble_eq_true rfl) ?_
  intro _ _ _ _ _ _ _ _ _ hF hr hlk hnm
  refine zx_aload_n (pc := 0) hF d_Mod_power_0 rfl 0 rfl ?_
  refine zx_iload_n (pc := 1) hF d_Mod_power_1 rfl 1 rfl ?_
  refine zx_Vi (pc := 2) hF (As := [.int (nI q)]) (rest := []) (fun sz => M_Mod_isServer l D K M m0 bN sN0 pN k0 k1 now x_wd x_beg x_std x_dea x_frm x_alv x_stm x_mov x_dwn x_ctd x_cutm x_pha x_usd x_gol x_esr x_epo x_offm x_ast x_opn x_ssr x_spo x_awa x_dat kpt x_hd by0 to0 rep had ost bst x_inr (nI q)  sz) [0] rfl (by decide) (as := [m0]) rfl rfl (ws' := [cO m0 11 [.int (nI bN), .int (nI sN0), .int (nI pN), .long k0, .long k1, .int now, .ref x_wd, .ref x_beg, .ref x_std, .ref x_dea, .ref x_frm, .ref x_alv, .ref x_stm, .ref x_mov, .ref x_dwn, .ref x_ctd, .ref x_cutm, .ref x_pha, .ref x_usd, .ref x_gol, .ref x_esr, .ref x_epo, .ref x_offm, .ref x_ast, .ref x_opn, .ref x_ssr, .ref x_spo, .ref x_awa, .ref x_dat, .int kpt, .ref x_hd, .int by0, .int to0, .int rep, .int had, .int ost, .int bst, .ref x_inr], cZ K x_offm 8 offm, cZ K x_opn 80 opn]) rfl 0 11 rfl rfl rfl (cw_Mod_192 hF.2.2.2.2.1 rfl rfl ⟨by decide, by decide⟩) rfl rfl (Nat.le_of_ble_eq_true rfl) d_Mod_power_2 ⟨Nat.zero_le _, Nat.zero_le _⟩ ?_
  refine zx_topi 1 (g_is_in hq (by omega)) ?_
  refine zx_if_eq (pc := 5) hF d_Mod_power_5 (tgt := 18) rfl (fun h5 => ?_) (fun h5 => ?_)
  · exact absurd h5 (by decide)
  · refine zx_aload_n (pc := 8) hF d_Mod_power_8 rfl 0 rfl ?_
    refine zg_Mod_60 (pc := 9) hF 0 rfl rfl d_Mod_power_9 ?_
    refine zx_iload_n (pc := 12) hF d_Mod_power_12 rfl 1 rfl ?_
    refine zx_zaldn (pc := 13) hF (i := q) 1 rfl (by omega) (by omega) d_Mod_power_13 ?_
    refine zx_iload_n (pc := 14) hF d_Mod_power_14 rfl 2 rfl ?_
    refine zx_icmp_eq (pc := 15) hF d_Mod_power_15 (tgt := 20) rfl (fun h15 => ?_) (fun h15 => ?_)
    · refine zx_aload_n (pc := 20) hF d_Mod_power_20 rfl 0 rfl ?_
      refine zg_Mod_60 (pc := 21) hF 0 rfl rfl d_Mod_power_21 ?_
      refine zx_iload_n (pc := 24) hF d_Mod_power_24 rfl 1 rfl ?_
      refine zx_iload_n (pc := 25) hF d_Mod_power_25 rfl 2 rfl ?_
      refine zx_if_ne (pc := 26) hF d_Mod_power_26 (tgt := 33) rfl (fun h26 => ?_) (fun h26 => ?_)
      · refine zx_iconst (pc := 33) hF d_Mod_power_33 k_i0 ?_
        refine zx_zastn (pc := 34) hF (i := q) 1 rfl (by omega) (by omega) rfl d_Mod_power_34 (ws' := [cO m0 11 [.int (nI bN), .int (nI sN0), .int (nI pN), .long k0, .long k1, .int now, .ref x_wd, .ref x_beg, .ref x_std, .ref x_dea, .ref x_frm, .ref x_alv, .ref x_stm, .ref x_mov, .ref x_dwn, .ref x_ctd, .ref x_cutm, .ref x_pha, .ref x_usd, .ref x_gol, .ref x_esr, .ref x_epo, .ref x_offm, .ref x_ast, .ref x_opn, .ref x_ssr, .ref x_spo, .ref x_awa, .ref x_dat, .int kpt, .ref x_hd, .int by0, .int to0, .int rep, .int had, .int ost, .int bst, .ref x_inr], cZ K x_offm 8 (upd offm q 0), cZ K x_opn 80 opn]) rfl ?_
        refine zx_iconst (pc := 35) hF d_Mod_power_35 k_i0 ?_
        refine zx_istore_n (pc := 36) hF (lv' := [(3, .int 0), (0, .ref m0), (1, .int (nI q)), (2, .int o)]) d_Mod_power_36 rfl (by decide) rfl ?_
        refine zx_lv [1, 2, 0] (lv' := [(0, .ref m0), (1, .int (nI q)), (3, .int 0)]) rfl ?_
        refine zx_loop (pc := 37) (σ := Nat × (Nat → Int32)) (fun k zv => (zv.1 + k = 10) ∧ (f_fill k (10 * q + zv.1) 0 zv.2 = f_fill 10 (10 * q) 0 opn)) (fun zv => [cO m0 11 [.int (nI bN), .int (nI sN0), .int (nI pN), .long k0, .long k1, .int now, .ref x_wd, .ref x_beg, .ref x_std, .ref x_dea, .ref x_frm, .ref x_alv, .ref x_stm, .ref x_mov, .ref x_dwn, .ref x_ctd, .ref x_cutm, .ref x_pha, .ref x_usd, .ref x_gol, .ref x_esr, .ref x_epo, .ref x_offm, .ref x_ast, .ref x_opn, .ref x_ssr, .ref x_spo, .ref x_awa, .ref x_dat, .int kpt, .ref x_hd, .int by0, .int to0, .int rep, .int had, .int ost, .int bst, .ref x_inr], cZ K x_offm 8 (upd offm q 0), cZ K x_opn 80 zv.2]) (fun zv => [(0, .ref m0), (1, .int (nI q)), (3, .int (nI zv.1))]) 10 (0, opn) ⟨rfl, rfl⟩ rfl rfl ?_
        intro k zv hI ih
        obtain ⟨j, f'⟩ := zv
        obtain ⟨hk, hX⟩ := hI
        replace hk : j + k = 10 := hk
        replace hX : f_fill k (10 * q + j) 0 f' = f_fill 10 (10 * q) 0 opn := hX
        refine zx_eq (ws' := [cO m0 11 [.int (nI bN), .int (nI sN0), .int (nI pN), .long k0, .long k1, .int now, .ref x_wd, .ref x_beg, .ref x_std, .ref x_dea, .ref x_frm, .ref x_alv, .ref x_stm, .ref x_mov, .ref x_dwn, .ref x_ctd, .ref x_cutm, .ref x_pha, .ref x_usd, .ref x_gol, .ref x_esr, .ref x_epo, .ref x_offm, .ref x_ast, .ref x_opn, .ref x_ssr, .ref x_spo, .ref x_awa, .ref x_dat, .int kpt, .ref x_hd, .int by0, .int to0, .int rep, .int had, .int ost, .int bst, .ref x_inr], cZ K x_offm 8 (upd offm q 0), cZ K x_opn 80 f']) (lv' := [(0, .ref m0), (1, .int (nI q)), (3, .int (nI j))]) rfl rfl rfl ?_
        refine zx_iload_n (pc := 37) hF d_Mod_power_37 rfl 2 rfl ?_
        refine zx_bipush (pc := 38) hF d_Mod_power_38 k_b10 ?_
        refine zx_icmp_ge (pc := 40) hF d_Mod_power_40 (tgt := 61) rfl (fun h40 => ?_) (fun h40 => ?_)
        · replace h40 : 10 ≤ j := (nI_leI (a := 10) (b := j) (by omega) (by omega)).mp h40
          refine zx_iconst (pc := 61) hF d_Mod_power_61 k_i1 ?_
          exact zx_zret (pc := 62) hF hr hlk rfl (by simp only [g_pow, h15, ↓reduceIte]) (by obtain rfl : k = 0 := (by omega); simp only [g_poff, g_popn, if_pos h15, if_neg h26]; rw [← hX]; rfl) d_Mod_power_62
        · replace h40 : ¬ 10 ≤ j := fun z => h40 ((nI_leI (a := 10) (b := j) (by omega) (by omega)).mpr z)
          refine zx_aload_n (pc := 43) hF d_Mod_power_43 rfl 0 rfl ?_
          refine zg_Mod_66 (pc := 44) hF 0 rfl rfl d_Mod_power_44 ?_
          refine zx_bipush (pc := 47) hF d_Mod_power_47 k_b10 ?_
          refine zx_iload_n (pc := 49) hF d_Mod_power_49 rfl 1 rfl ?_
          refine zx_imul (pc := 50) hF d_Mod_power_50 ?_
          refine zx_topi (nI (10 * q)) (pk_mul 10 q) ?_
          refine zx_iload_n (pc := 51) hF d_Mod_power_51 rfl 2 rfl ?_
          refine zx_iadd (pc := 52) hF d_Mod_power_52 ?_
          refine zx_topi (nI ((10 * q) + j)) (nI_add (10 * q) j) ?_
          refine zx_iconst (pc := 53) hF d_Mod_power_53 k_i0 ?_
          refine zx_zastn (pc := 54) hF (i := (10 * q) + j) 2 rfl (by omega) (by omega) rfl d_Mod_power_54 (ws' := [cO m0 11 [.int (nI bN), .int (nI sN0), .int (nI pN), .long k0, .long k1, .int now, .ref x_wd, .ref x_beg, .ref x_std, .ref x_dea, .ref x_frm, .ref x_alv, .ref x_stm, .ref x_mov, .ref x_dwn, .ref x_ctd, .ref x_cutm, .ref x_pha, .ref x_usd, .ref x_gol, .ref x_esr, .ref x_epo, .ref x_offm, .ref x_ast, .ref x_opn, .ref x_ssr, .ref x_spo, .ref x_awa, .ref x_dat, .int kpt, .ref x_hd, .int by0, .int to0, .int rep, .int had, .int ost, .int bst, .ref x_inr], cZ K x_offm 8 (upd offm q 0), cZ K x_opn 80 (upd f' ((10 * q) + j) 0)]) rfl ?_
          refine zx_iinc (pc := 55) hF (v := nI (j + 1)) (lv' := [(3, .int (nI (j + 1))), (0, .ref m0), (1, .int (nI q))]) d_Mod_power_55 2 rfl (zinc j) (by decide) rfl ?_
          refine zx_goto (pc := 58) hF d_Mod_power_58 (tgt := 37) rfl ?_
          refine zx_lv [1, 2, 0] (lv' := [(0, .ref m0), (1, .int (nI q)), (3, .int (nI (j + 1)))]) rfl ?_
          exact ih (k - 1) (j + 1, upd f' ((10 * q) + j) 0) (by omega) ⟨by first | omega | (dsimp only; omega) | dsimp only, by obtain ⟨k', rfl⟩ : ∃ k', k = k' + 1 := ⟨k - 1, by omega⟩; exact hX⟩
      · refine zx_iconst (pc := 29) hF d_Mod_power_29 k_i1 ?_
        refine zx_goto (pc := 30) hF d_Mod_power_30 (tgt := 34) rfl ?_
        refine zx_zastn (pc := 34) hF (i := q) 1 rfl (by omega) (by omega) rfl d_Mod_power_34 (ws' := [cO m0 11 [.int (nI bN), .int (nI sN0), .int (nI pN), .long k0, .long k1, .int now, .ref x_wd, .ref x_beg, .ref x_std, .ref x_dea, .ref x_frm, .ref x_alv, .ref x_stm, .ref x_mov, .ref x_dwn, .ref x_ctd, .ref x_cutm, .ref x_pha, .ref x_usd, .ref x_gol, .ref x_esr, .ref x_epo, .ref x_offm, .ref x_ast, .ref x_opn, .ref x_ssr, .ref x_spo, .ref x_awa, .ref x_dat, .int kpt, .ref x_hd, .int by0, .int to0, .int rep, .int had, .int ost, .int bst, .ref x_inr], cZ K x_offm 8 (upd offm q 1), cZ K x_opn 80 opn]) rfl ?_
        refine zx_iconst (pc := 35) hF d_Mod_power_35 k_i0 ?_
        refine zx_istore_n (pc := 36) hF (lv' := [(3, .int 0), (0, .ref m0), (1, .int (nI q)), (2, .int o)]) d_Mod_power_36 rfl (by decide) rfl ?_
        refine zx_lv [1, 2, 0] (lv' := [(0, .ref m0), (1, .int (nI q)), (3, .int 0)]) rfl ?_
        refine zx_loop (pc := 37) (σ := Nat × (Nat → Int32)) (fun k zv => (zv.1 + k = 10) ∧ (f_fill k (10 * q + zv.1) 0 zv.2 = f_fill 10 (10 * q) 0 opn)) (fun zv => [cO m0 11 [.int (nI bN), .int (nI sN0), .int (nI pN), .long k0, .long k1, .int now, .ref x_wd, .ref x_beg, .ref x_std, .ref x_dea, .ref x_frm, .ref x_alv, .ref x_stm, .ref x_mov, .ref x_dwn, .ref x_ctd, .ref x_cutm, .ref x_pha, .ref x_usd, .ref x_gol, .ref x_esr, .ref x_epo, .ref x_offm, .ref x_ast, .ref x_opn, .ref x_ssr, .ref x_spo, .ref x_awa, .ref x_dat, .int kpt, .ref x_hd, .int by0, .int to0, .int rep, .int had, .int ost, .int bst, .ref x_inr], cZ K x_offm 8 (upd offm q 1), cZ K x_opn 80 zv.2]) (fun zv => [(0, .ref m0), (1, .int (nI q)), (3, .int (nI zv.1))]) 10 (0, opn) ⟨rfl, rfl⟩ rfl rfl ?_
        intro k zv hI ih
        obtain ⟨j, f'⟩ := zv
        obtain ⟨hk, hX⟩ := hI
        replace hk : j + k = 10 := hk
        replace hX : f_fill k (10 * q + j) 0 f' = f_fill 10 (10 * q) 0 opn := hX
        refine zx_eq (ws' := [cO m0 11 [.int (nI bN), .int (nI sN0), .int (nI pN), .long k0, .long k1, .int now, .ref x_wd, .ref x_beg, .ref x_std, .ref x_dea, .ref x_frm, .ref x_alv, .ref x_stm, .ref x_mov, .ref x_dwn, .ref x_ctd, .ref x_cutm, .ref x_pha, .ref x_usd, .ref x_gol, .ref x_esr, .ref x_epo, .ref x_offm, .ref x_ast, .ref x_opn, .ref x_ssr, .ref x_spo, .ref x_awa, .ref x_dat, .int kpt, .ref x_hd, .int by0, .int to0, .int rep, .int had, .int ost, .int bst, .ref x_inr], cZ K x_offm 8 (upd offm q 1), cZ K x_opn 80 f']) (lv' := [(0, .ref m0), (1, .int (nI q)), (3, .int (nI j))]) rfl rfl rfl ?_
        refine zx_iload_n (pc := 37) hF d_Mod_power_37 rfl 2 rfl ?_
        refine zx_bipush (pc := 38) hF d_Mod_power_38 k_b10 ?_
        refine zx_icmp_ge (pc := 40) hF d_Mod_power_40 (tgt := 61) rfl (fun h40 => ?_) (fun h40 => ?_)
        · replace h40 : 10 ≤ j := (nI_leI (a := 10) (b := j) (by omega) (by omega)).mp h40
          refine zx_iconst (pc := 61) hF d_Mod_power_61 k_i1 ?_
          exact zx_zret (pc := 62) hF hr hlk rfl (by simp only [g_pow, h15, ↓reduceIte]) (by obtain rfl : k = 0 := (by omega); simp only [g_poff, g_popn, if_pos h15, if_pos h26]; rw [← hX]; rfl) d_Mod_power_62
        · replace h40 : ¬ 10 ≤ j := fun z => h40 ((nI_leI (a := 10) (b := j) (by omega) (by omega)).mpr z)
          refine zx_aload_n (pc := 43) hF d_Mod_power_43 rfl 0 rfl ?_
          refine zg_Mod_66 (pc := 44) hF 0 rfl rfl d_Mod_power_44 ?_
          refine zx_bipush (pc := 47) hF d_Mod_power_47 k_b10 ?_
          refine zx_iload_n (pc := 49) hF d_Mod_power_49 rfl 1 rfl ?_
          refine zx_imul (pc := 50) hF d_Mod_power_50 ?_
          refine zx_topi (nI (10 * q)) (pk_mul 10 q) ?_
          refine zx_iload_n (pc := 51) hF d_Mod_power_51 rfl 2 rfl ?_
          refine zx_iadd (pc := 52) hF d_Mod_power_52 ?_
          refine zx_topi (nI ((10 * q) + j)) (nI_add (10 * q) j) ?_
          refine zx_iconst (pc := 53) hF d_Mod_power_53 k_i0 ?_
          refine zx_zastn (pc := 54) hF (i := (10 * q) + j) 2 rfl (by omega) (by omega) rfl d_Mod_power_54 (ws' := [cO m0 11 [.int (nI bN), .int (nI sN0), .int (nI pN), .long k0, .long k1, .int now, .ref x_wd, .ref x_beg, .ref x_std, .ref x_dea, .ref x_frm, .ref x_alv, .ref x_stm, .ref x_mov, .ref x_dwn, .ref x_ctd, .ref x_cutm, .ref x_pha, .ref x_usd, .ref x_gol, .ref x_esr, .ref x_epo, .ref x_offm, .ref x_ast, .ref x_opn, .ref x_ssr, .ref x_spo, .ref x_awa, .ref x_dat, .int kpt, .ref x_hd, .int by0, .int to0, .int rep, .int had, .int ost, .int bst, .ref x_inr], cZ K x_offm 8 (upd offm q 1), cZ K x_opn 80 (upd f' ((10 * q) + j) 0)]) rfl ?_
          refine zx_iinc (pc := 55) hF (v := nI (j + 1)) (lv' := [(3, .int (nI (j + 1))), (0, .ref m0), (1, .int (nI q))]) d_Mod_power_55 2 rfl (zinc j) (by decide) rfl ?_
          refine zx_goto (pc := 58) hF d_Mod_power_58 (tgt := 37) rfl ?_
          refine zx_lv [1, 2, 0] (lv' := [(0, .ref m0), (1, .int (nI q)), (3, .int (nI (j + 1)))]) rfl ?_
          exact ih (k - 1) (j + 1, upd f' ((10 * q) + j) 0) (by omega) ⟨by first | omega | (dsimp only; omega) | dsimp only, by obtain ⟨k', rfl⟩ : ∃ k', k = k' + 1 := ⟨k - 1, by omega⟩; exact hX⟩
    · refine zx_iconst (pc := 18) hF d_Mod_power_18 k_i0 ?_
      exact zx_zret (pc := 19) hF hr hlk rfl (by first | with_reducible rfl | (simp only [g_pow, g_poff, g_popn, if_neg h15]; done) | (simp only [g_pow, g_poff, g_popn, h15, ↓reduceIte]; done) | simp [g_pow, g_poff, g_popn, h15]) (by first | with_reducible rfl | (simp only [g_pow, g_poff, g_popn, if_neg h15]; done) | (simp only [g_pow, g_poff, g_popn, h15, ↓reduceIte]; done) | simp [g_pow, g_poff, g_popn, h15]) d_Mod_power_19
set_option maxRecDepth 20000 in
theorem M_Mod_power_q (l : Launch) (D : va_G) (K : Nat → ClassId) (M : List (ClassId × FieldType)) (m0 : Nat) (bN : Nat) (sN0 : Nat) (pN : Nat) (k0 : Int64) (k1 : Int64) (now : Int32) (x_wd : Nat) (x_beg : Nat) (x_std : Nat) (x_dea : Nat) (x_frm : Nat) (x_alv : Nat) (x_stm : Nat) (x_mov : Nat) (x_dwn : Nat) (x_ctd : Nat) (x_cutm : Nat) (x_pha : Nat) (x_usd : Nat) (x_gol : Nat) (x_esr : Nat) (x_epo : Nat) (x_offm : Nat) (x_ast : Nat) (x_opn : Nat) (x_ssr : Nat) (x_spo : Nat) (x_awa : Nat) (x_dat : Nat) (kpt : Int32) (x_hd : Nat) (by0 : Int32) (to0 : Int32) (rep : Int32) (had : Int32) (ost : Int32) (bst : Int32) (x_inr : Nat) (q : Int32) (o : Int32) (hq : g_is q sN0 = 0) (sz : Nat) : zM l y_Mod_power (zT y_Mod_power b_Mod_power 4 (some .boolean)) (zR 1 21) 0 0 D K M [.ref m0, .int q, .int o] [cO m0 11 [.int (nI bN), .int (nI sN0), .int (nI pN), .long k0, .long k1, .int now, .ref x_wd, .ref x_beg, .ref x_std, .ref x_dea, .ref x_frm, .ref x_alv, .ref x_stm, .ref x_mov, .ref x_dwn, .ref x_ctd, .ref x_cutm, .ref x_pha, .ref x_usd, .ref x_gol, .ref x_esr, .ref x_epo, .ref x_offm, .ref x_ast, .ref x_opn, .ref x_ssr, .ref x_spo, .ref x_awa, .ref x_dat, .int kpt, .ref x_hd, .int by0, .int to0, .int rep, .int had, .int ost, .int bst, .ref x_inr]] sz (zQi D K M 0 [cO m0 11 [.int (nI bN), .int (nI sN0), .int (nI pN), .long k0, .long k1, .int now, .ref x_wd, .ref x_beg, .ref x_std, .ref x_dea, .ref x_frm, .ref x_alv, .ref x_stm, .ref x_mov, .ref x_dwn, .ref x_ctd, .ref x_cutm, .ref x_pha, .ref x_usd, .ref x_gol, .ref x_esr, .ref x_epo, .ref x_offm, .ref x_ast, .ref x_opn, .ref x_ssr, .ref x_spo, .ref x_awa, .ref x_dat, .int kpt, .ref x_hd, .int by0, .int to0, .int rep, .int had, .int ost, .int bst, .ref x_inr]]) := by
  refine zx_head (by decide) (Nat.le_of_ble_eq_true rfl) ?_
  intro _ _ _ _ _ _ _ _ _ hF hr hlk hnm
  refine zx_aload_n (pc := 0) hF d_Mod_power_0 rfl 0 rfl ?_
  refine zx_iload_n (pc := 1) hF d_Mod_power_1 rfl 1 rfl ?_
  refine zx_Vi (pc := 2) hF (As := [.int q]) (rest := []) (fun sz => M_Mod_isServer l D K M m0 bN sN0 pN k0 k1 now x_wd x_beg x_std x_dea x_frm x_alv x_stm x_mov x_dwn x_ctd x_cutm x_pha x_usd x_gol x_esr x_epo x_offm x_ast x_opn x_ssr x_spo x_awa x_dat kpt x_hd by0 to0 rep had ost bst x_inr q  sz) [0] rfl (by decide) (as := [m0]) rfl rfl (ws' := [cO m0 11 [.int (nI bN), .int (nI sN0), .int (nI pN), .long k0, .long k1, .int now, .ref x_wd, .ref x_beg, .ref x_std, .ref x_dea, .ref x_frm, .ref x_alv, .ref x_stm, .ref x_mov, .ref x_dwn, .ref x_ctd, .ref x_cutm, .ref x_pha, .ref x_usd, .ref x_gol, .ref x_esr, .ref x_epo, .ref x_offm, .ref x_ast, .ref x_opn, .ref x_ssr, .ref x_spo, .ref x_awa, .ref x_dat, .int kpt, .ref x_hd, .int by0, .int to0, .int rep, .int had, .int ost, .int bst, .ref x_inr]]) rfl 0 11 rfl rfl rfl (cw_Mod_192 hF.2.2.2.2.1 rfl rfl ⟨by decide, by decide⟩) rfl rfl (Nat.le_of_ble_eq_true rfl) d_Mod_power_2 ⟨Nat.zero_le _, Nat.zero_le _⟩ ?_
  refine zx_topi 0 (hq) ?_
  refine zx_if_eq (pc := 5) hF d_Mod_power_5 (tgt := 18) rfl (fun h5 => ?_) (fun h5 => ?_)
  · refine zx_iconst (pc := 18) hF d_Mod_power_18 k_i0 ?_
    exact zx_zret (pc := 19) hF hr hlk rfl (by first | rfl | (simp only []; done) | (simp only [↓reduceIte]; done) | simp []) (by first | rfl | (simp only []; done) | (simp only [↓reduceIte]; done) | simp []) d_Mod_power_19
  · exact absurd h5 (by decide)
set_option maxRecDepth 20000 in
theorem M_Mod_path (l : Launch) (D : va_G) (K : Nat → ClassId) (M : List (ClassId × FieldType)) (m0 : Nat) (bN : Nat) (sN0 : Nat) (pN : Nat) (k0 : Int64) (k1 : Int64) (now : Int32) (x_wd : Nat) (x_beg : Nat) (x_std : Nat) (x_dea : Nat) (x_frm : Nat) (x_alv : Nat) (x_stm : Nat) (x_mov : Nat) (x_dwn : Nat) (x_ctd : Nat) (x_cutm : Nat) (x_pha : Nat) (x_usd : Nat) (x_gol : Nat) (x_esr : Nat) (x_epo : Nat) (x_offm : Nat) (x_ast : Nat) (x_opn : Nat) (x_ssr : Nat) (x_spo : Nat) (x_awa : Nat) (x_dat : Nat) (kpt : Int32) (x_hd : Nat) (by0 : Int32) (to0 : Int32) (rep : Int32) (had : Int32) (ost : Int32) (bst : Int32) (x_inr : Nat) (cutm : Nat → Int32) (b : Nat) (q : Nat) (o : Int32) (hB : bN ≤ 4) (hS : 0 < sN0 ∧ sN0 ≤ 8) (hb : b < bN) (hq : q < sN0) (ho : o = 0 ∨ o = 1) (sz : Nat) : zM l y_Mod_path (zT y_Mod_path b_Mod_path 4 (some .boolean)) (zR 1 21) 0 0 D K M [.ref m0, .int (nI b), .int (nI q), .int o] [cO m0 11 [.int (nI bN), .int (nI sN0), .int (nI pN), .long k0, .long k1, .int now, .ref x_wd, .ref x_beg, .ref x_std, .ref x_dea, .ref x_frm, .ref x_alv, .ref x_stm, .ref x_mov, .ref x_dwn, .ref x_ctd, .ref x_cutm, .ref x_pha, .ref x_usd, .ref x_gol, .ref x_esr, .ref x_epo, .ref x_offm, .ref x_ast, .ref x_opn, .ref x_ssr, .ref x_spo, .ref x_awa, .ref x_dat, .int kpt, .ref x_hd, .int by0, .int to0, .int rep, .int had, .int ost, .int bst, .ref x_inr], cZ K x_cutm 32 cutm] sz (zQi D K M (g_pth cutm (8 * b + q) o) [cO m0 11 [.int (nI bN), .int (nI sN0), .int (nI pN), .long k0, .long k1, .int now, .ref x_wd, .ref x_beg, .ref x_std, .ref x_dea, .ref x_frm, .ref x_alv, .ref x_stm, .ref x_mov, .ref x_dwn, .ref x_ctd, .ref x_cutm, .ref x_pha, .ref x_usd, .ref x_gol, .ref x_esr, .ref x_epo, .ref x_offm, .ref x_ast, .ref x_opn, .ref x_ssr, .ref x_spo, .ref x_awa, .ref x_dat, .int kpt, .ref x_hd, .int by0, .int to0, .int rep, .int had, .int ost, .int bst, .ref x_inr], cZ K x_cutm 32 (g_pcut cutm (8 * b + q) o)]) := by
  refine zx_head (by decide) (Nat.le_of_ble_eq_true rfl) ?_
  intro _ _ _ _ _ _ _ _ _ hF hr hlk hnm
  refine zx_aload_n (pc := 0) hF d_Mod_path_0 rfl 0 rfl ?_
  refine zx_iload_n (pc := 1) hF d_Mod_path_1 rfl 1 rfl ?_
  refine zx_Vi (pc := 2) hF (As := [.int (nI b)]) (rest := []) (fun sz => M_Mod_isBalancer l D K M m0 bN sN0 pN k0 k1 now x_wd x_beg x_std x_dea x_frm x_alv x_stm x_mov x_dwn x_ctd x_cutm x_pha x_usd x_gol x_esr x_epo x_offm x_ast x_opn x_ssr x_spo x_awa x_dat kpt x_hd by0 to0 rep had ost bst x_inr (nI b)  sz) [0] rfl (by decide) (as := [m0]) rfl rfl (ws' := [cO m0 11 [.int (nI bN), .int (nI sN0), .int (nI pN), .long k0, .long k1, .int now, .ref x_wd, .ref x_beg, .ref x_std, .ref x_dea, .ref x_frm, .ref x_alv, .ref x_stm, .ref x_mov, .ref x_dwn, .ref x_ctd, .ref x_cutm, .ref x_pha, .ref x_usd, .ref x_gol, .ref x_esr, .ref x_epo, .ref x_offm, .ref x_ast, .ref x_opn, .ref x_ssr, .ref x_spo, .ref x_awa, .ref x_dat, .int kpt, .ref x_hd, .int by0, .int to0, .int rep, .int had, .int ost, .int bst, .ref x_inr], cZ K x_cutm 32 cutm]) rfl 0 11 rfl rfl rfl (cw_Mod_186 hF.2.2.2.2.1 rfl rfl ⟨by decide, by decide⟩) rfl rfl (Nat.le_of_ble_eq_true rfl) d_Mod_path_2 ⟨Nat.zero_le _, Nat.zero_le _⟩ ?_
  refine zx_topi 1 (g_is_in hb (by omega)) ?_
  refine zx_if_eq (pc := 5) hF d_Mod_path_5 (tgt := 31) rfl (fun h5 => ?_) (fun h5 => ?_)
  · exact absurd h5 (by decide)
  · refine zx_aload_n (pc := 8) hF d_Mod_path_8 rfl 0 rfl ?_
    refine zx_iload_n (pc := 9) hF d_Mod_path_9 rfl 2 rfl ?_
    refine zx_Vi (pc := 10) hF (As := [.int (nI q)]) (rest := []) (fun sz => M_Mod_isServer l D K M m0 bN sN0 pN k0 k1 now x_wd x_beg x_std x_dea x_frm x_alv x_stm x_mov x_dwn x_ctd x_cutm x_pha x_usd x_gol x_esr x_epo x_offm x_ast x_opn x_ssr x_spo x_awa x_dat kpt x_hd by0 to0 rep had ost bst x_inr (nI q)  sz) [0] rfl (by decide) (as := [m0]) rfl rfl (ws' := [cO m0 11 [.int (nI bN), .int (nI sN0), .int (nI pN), .long k0, .long k1, .int now, .ref x_wd, .ref x_beg, .ref x_std, .ref x_dea, .ref x_frm, .ref x_alv, .ref x_stm, .ref x_mov, .ref x_dwn, .ref x_ctd, .ref x_cutm, .ref x_pha, .ref x_usd, .ref x_gol, .ref x_esr, .ref x_epo, .ref x_offm, .ref x_ast, .ref x_opn, .ref x_ssr, .ref x_spo, .ref x_awa, .ref x_dat, .int kpt, .ref x_hd, .int by0, .int to0, .int rep, .int had, .int ost, .int bst, .ref x_inr], cZ K x_cutm 32 cutm]) rfl 0 11 rfl rfl rfl (cw_Mod_192 hF.2.2.2.2.1 rfl rfl ⟨by decide, by decide⟩) rfl rfl (Nat.le_of_ble_eq_true rfl) d_Mod_path_10 ⟨Nat.zero_le _, Nat.zero_le _⟩ ?_
    refine zx_topi 1 (g_is_in hq (by omega)) ?_
    refine zx_if_eq (pc := 13) hF d_Mod_path_13 (tgt := 31) rfl (fun h13 => ?_) (fun h13 => ?_)
    · exact absurd h13 (by decide)
    · refine zx_aload_n (pc := 16) hF d_Mod_path_16 rfl 0 rfl ?_
      refine zg_Mod_42 (pc := 17) hF 0 rfl rfl d_Mod_path_17 ?_
      refine zx_bipush (pc := 20) hF d_Mod_path_20 k_b8 ?_
      refine zx_iload_n (pc := 22) hF d_Mod_path_22 rfl 1 rfl ?_
      refine zx_imul (pc := 23) hF d_Mod_path_23 ?_
      refine zx_topi (nI (8 * b)) (pk_mul 8 b) ?_
      refine zx_iload_n (pc := 24) hF d_Mod_path_24 rfl 2 rfl ?_
      refine zx_iadd (pc := 25) hF d_Mod_path_25 ?_
      refine zx_topi (nI ((8 * b) + q)) (nI_add (8 * b) q) ?_
      refine zx_zaldn (pc := 26) hF (i := (8 * b) + q) 1 rfl (by omega) (by omega) d_Mod_path_26 ?_
      refine zx_iload_n (pc := 27) hF d_Mod_path_27 rfl 3 rfl ?_
      refine zx_icmp_eq (pc := 28) hF d_Mod_path_28 (tgt := 33) rfl (fun h28 => ?_) (fun h28 => ?_)
      · refine zx_aload_n (pc := 33) hF d_Mod_path_33 rfl 0 rfl ?_
        refine zg_Mod_42 (pc := 34) hF 0 rfl rfl d_Mod_path_34 ?_
        refine zx_bipush (pc := 37) hF d_Mod_path_37 k_b8 ?_
        refine zx_iload_n (pc := 39) hF d_Mod_path_39 rfl 1 rfl ?_
        refine zx_imul (pc := 40) hF d_Mod_path_40 ?_
        refine zx_topi (nI (8 * b)) (pk_mul 8 b) ?_
        refine zx_iload_n (pc := 41) hF d_Mod_path_41 rfl 2 rfl ?_
        refine zx_iadd (pc := 42) hF d_Mod_path_42 ?_
        refine zx_topi (nI ((8 * b) + q)) (nI_add (8 * b) q) ?_
        refine zx_iload_n (pc := 43) hF d_Mod_path_43 rfl 3 rfl ?_
        refine zx_if_ne (pc := 44) hF d_Mod_path_44 (tgt := 51) rfl (fun h44 => ?_) (fun h44 => ?_)
        · refine zx_iconst (pc := 51) hF d_Mod_path_51 k_i0 ?_
          refine zx_zastn (pc := 52) hF (i := (8 * b) + q) 1 rfl (by omega) (by omega) rfl d_Mod_path_52 (ws' := [cO m0 11 [.int (nI bN), .int (nI sN0), .int (nI pN), .long k0, .long k1, .int now, .ref x_wd, .ref x_beg, .ref x_std, .ref x_dea, .ref x_frm, .ref x_alv, .ref x_stm, .ref x_mov, .ref x_dwn, .ref x_ctd, .ref x_cutm, .ref x_pha, .ref x_usd, .ref x_gol, .ref x_esr, .ref x_epo, .ref x_offm, .ref x_ast, .ref x_opn, .ref x_ssr, .ref x_spo, .ref x_awa, .ref x_dat, .int kpt, .ref x_hd, .int by0, .int to0, .int rep, .int had, .int ost, .int bst, .ref x_inr], cZ K x_cutm 32 (upd cutm ((8 * b) + q) 0)]) rfl ?_
          refine zx_iconst (pc := 53) hF d_Mod_path_53 k_i1 ?_
          exact zx_zret (pc := 54) hF hr hlk rfl (by first | with_reducible rfl | (simp only [g_pth, g_pcut, if_pos h28, if_neg h44]; done) | (simp only [g_pth, g_pcut, h28, h44, ↓reduceIte]; done) | simp [g_pth, g_pcut, h28, h44]) (by first | with_reducible rfl | (simp only [g_pth, g_pcut, if_pos h28, if_neg h44]; done) | (simp only [g_pth, g_pcut, h28, h44, ↓reduceIte]; done) | simp [g_pth, g_pcut, h28, h44]) d_Mod_path_54
        · refine zx_iconst (pc := 47) hF d_Mod_path_47 k_i1 ?_
          refine zx_goto (pc := 48) hF d_Mod_path_48 (tgt := 52) rfl ?_
          refine zx_zastn (pc := 52) hF (i := (8 * b) + q) 1 rfl (by omega) (by omega) rfl d_Mod_path_52 (ws' := [cO m0 11 [.int (nI bN), .int (nI sN0), .int (nI pN), .long k0, .long k1, .int now, .ref x_wd, .ref x_beg, .ref x_std, .ref x_dea, .ref x_frm, .ref x_alv, .ref x_stm, .ref x_mov, .ref x_dwn, .ref x_ctd, .ref x_cutm, .ref x_pha, .ref x_usd, .ref x_gol, .ref x_esr, .ref x_epo, .ref x_offm, .ref x_ast, .ref x_opn, .ref x_ssr, .ref x_spo, .ref x_awa, .ref x_dat, .int kpt, .ref x_hd, .int by0, .int to0, .int rep, .int had, .int ost, .int bst, .ref x_inr], cZ K x_cutm 32 (upd cutm ((8 * b) + q) 1)]) rfl ?_
          refine zx_iconst (pc := 53) hF d_Mod_path_53 k_i1 ?_
          exact zx_zret (pc := 54) hF hr hlk rfl (by first | with_reducible rfl | (simp only [g_pth, g_pcut, if_pos h28, if_pos h44]; done) | (simp only [g_pth, g_pcut, h28, h44, ↓reduceIte]; done) | simp [g_pth, g_pcut, h28, h44]) (by first | with_reducible rfl | (simp only [g_pth, g_pcut, if_pos h28, if_pos h44]; done) | (simp only [g_pth, g_pcut, h28, h44, ↓reduceIte]; done) | simp [g_pth, g_pcut, h28, h44]) d_Mod_path_54
      · refine zx_iconst (pc := 31) hF d_Mod_path_31 k_i0 ?_
        exact zx_zret (pc := 32) hF hr hlk rfl (by first | with_reducible rfl | (simp only [g_pth, g_pcut, if_neg h28]; done) | (simp only [g_pth, g_pcut, h28, ↓reduceIte]; done) | simp [g_pth, g_pcut, h28]) (by first | with_reducible rfl | (simp only [g_pth, g_pcut, if_neg h28]; done) | (simp only [g_pth, g_pcut, h28, ↓reduceIte]; done) | simp [g_pth, g_pcut, h28]) d_Mod_path_32
set_option maxRecDepth 20000 in
theorem M_Mod_path_b (l : Launch) (D : va_G) (K : Nat → ClassId) (M : List (ClassId × FieldType)) (m0 : Nat) (bN : Nat) (sN0 : Nat) (pN : Nat) (k0 : Int64) (k1 : Int64) (now : Int32) (x_wd : Nat) (x_beg : Nat) (x_std : Nat) (x_dea : Nat) (x_frm : Nat) (x_alv : Nat) (x_stm : Nat) (x_mov : Nat) (x_dwn : Nat) (x_ctd : Nat) (x_cutm : Nat) (x_pha : Nat) (x_usd : Nat) (x_gol : Nat) (x_esr : Nat) (x_epo : Nat) (x_offm : Nat) (x_ast : Nat) (x_opn : Nat) (x_ssr : Nat) (x_spo : Nat) (x_awa : Nat) (x_dat : Nat) (kpt : Int32) (x_hd : Nat) (by0 : Int32) (to0 : Int32) (rep : Int32) (had : Int32) (ost : Int32) (bst : Int32) (x_inr : Nat) (b : Int32) (q : Int32) (o : Int32) (hb : g_is b bN = 0) (sz : Nat) : zM l y_Mod_path (zT y_Mod_path b_Mod_path 4 (some .boolean)) (zR 1 21) 0 0 D K M [.ref m0, .int b, .int q, .int o] [cO m0 11 [.int (nI bN), .int (nI sN0), .int (nI pN), .long k0, .long k1, .int now, .ref x_wd, .ref x_beg, .ref x_std, .ref x_dea, .ref x_frm, .ref x_alv, .ref x_stm, .ref x_mov, .ref x_dwn, .ref x_ctd, .ref x_cutm, .ref x_pha, .ref x_usd, .ref x_gol, .ref x_esr, .ref x_epo, .ref x_offm, .ref x_ast, .ref x_opn, .ref x_ssr, .ref x_spo, .ref x_awa, .ref x_dat, .int kpt, .ref x_hd, .int by0, .int to0, .int rep, .int had, .int ost, .int bst, .ref x_inr]] sz (zQi D K M 0 [cO m0 11 [.int (nI bN), .int (nI sN0), .int (nI pN), .long k0, .long k1, .int now, .ref x_wd, .ref x_beg, .ref x_std, .ref x_dea, .ref x_frm, .ref x_alv, .ref x_stm, .ref x_mov, .ref x_dwn, .ref x_ctd, .ref x_cutm, .ref x_pha, .ref x_usd, .ref x_gol, .ref x_esr, .ref x_epo, .ref x_offm, .ref x_ast, .ref x_opn, .ref x_ssr, .ref x_spo, .ref x_awa, .ref x_dat, .int kpt, .ref x_hd, .int by0, .int to0, .int rep, .int had, .int ost, .int bst, .ref x_inr]]) := by
  refine zx_head (by decide) (Nat.le_of_ble_eq_true rfl) ?_
  intro _ _ _ _ _ _ _ _ _ hF hr hlk hnm
  refine zx_aload_n (pc := 0) hF d_Mod_path_0 rfl 0 rfl ?_
  refine zx_iload_n (pc := 1) hF d_Mod_path_1 rfl 1 rfl ?_
  refine zx_Vi (pc := 2) hF (As := [.int b]) (rest := []) (fun sz => M_Mod_isBalancer l D K M m0 bN sN0 pN k0 k1 now x_wd x_beg x_std x_dea x_frm x_alv x_stm x_mov x_dwn x_ctd x_cutm x_pha x_usd x_gol x_esr x_epo x_offm x_ast x_opn x_ssr x_spo x_awa x_dat kpt x_hd by0 to0 rep had ost bst x_inr b  sz) [0] rfl (by decide) (as := [m0]) rfl rfl (ws' := [cO m0 11 [.int (nI bN), .int (nI sN0), .int (nI pN), .long k0, .long k1, .int now, .ref x_wd, .ref x_beg, .ref x_std, .ref x_dea, .ref x_frm, .ref x_alv, .ref x_stm, .ref x_mov, .ref x_dwn, .ref x_ctd, .ref x_cutm, .ref x_pha, .ref x_usd, .ref x_gol, .ref x_esr, .ref x_epo, .ref x_offm, .ref x_ast, .ref x_opn, .ref x_ssr, .ref x_spo, .ref x_awa, .ref x_dat, .int kpt, .ref x_hd, .int by0, .int to0, .int rep, .int had, .int ost, .int bst, .ref x_inr]]) rfl 0 11 rfl rfl rfl (cw_Mod_186 hF.2.2.2.2.1 rfl rfl ⟨by decide, by decide⟩) rfl rfl (Nat.le_of_ble_eq_true rfl) d_Mod_path_2 ⟨Nat.zero_le _, Nat.zero_le _⟩ ?_
  refine zx_topi 0 (hb) ?_
  refine zx_if_eq (pc := 5) hF d_Mod_path_5 (tgt := 31) rfl (fun h5 => ?_) (fun h5 => ?_)
  · refine zx_iconst (pc := 31) hF d_Mod_path_31 k_i0 ?_
    exact zx_zret (pc := 32) hF hr hlk rfl (by first | rfl | (simp only []; done) | (simp only [↓reduceIte]; done) | simp []) (by first | rfl | (simp only []; done) | (simp only [↓reduceIte]; done) | simp []) d_Mod_path_32
  · exact absurd h5 (by decide)
set_option maxRecDepth 20000 in
theorem M_Mod_path_q (l : Launch) (D : va_G) (K : Nat → ClassId) (M : List (ClassId × FieldType)) (m0 : Nat) (bN : Nat) (sN0 : Nat) (pN : Nat) (k0 : Int64) (k1 : Int64) (now : Int32) (x_wd : Nat) (x_beg : Nat) (x_std : Nat) (x_dea : Nat) (x_frm : Nat) (x_alv : Nat) (x_stm : Nat) (x_mov : Nat) (x_dwn : Nat) (x_ctd : Nat) (x_cutm : Nat) (x_pha : Nat) (x_usd : Nat) (x_gol : Nat) (x_esr : Nat) (x_epo : Nat) (x_offm : Nat) (x_ast : Nat) (x_opn : Nat) (x_ssr : Nat) (x_spo : Nat) (x_awa : Nat) (x_dat : Nat) (kpt : Int32) (x_hd : Nat) (by0 : Int32) (to0 : Int32) (rep : Int32) (had : Int32) (ost : Int32) (bst : Int32) (x_inr : Nat) (b : Nat) (q : Int32) (o : Int32) (hB : bN ≤ 4) (hS : 0 < sN0 ∧ sN0 ≤ 8) (hb : b < bN) (hq : g_is q sN0 = 0) (sz : Nat) : zM l y_Mod_path (zT y_Mod_path b_Mod_path 4 (some .boolean)) (zR 1 21) 0 0 D K M [.ref m0, .int (nI b), .int q, .int o] [cO m0 11 [.int (nI bN), .int (nI sN0), .int (nI pN), .long k0, .long k1, .int now, .ref x_wd, .ref x_beg, .ref x_std, .ref x_dea, .ref x_frm, .ref x_alv, .ref x_stm, .ref x_mov, .ref x_dwn, .ref x_ctd, .ref x_cutm, .ref x_pha, .ref x_usd, .ref x_gol, .ref x_esr, .ref x_epo, .ref x_offm, .ref x_ast, .ref x_opn, .ref x_ssr, .ref x_spo, .ref x_awa, .ref x_dat, .int kpt, .ref x_hd, .int by0, .int to0, .int rep, .int had, .int ost, .int bst, .ref x_inr]] sz (zQi D K M 0 [cO m0 11 [.int (nI bN), .int (nI sN0), .int (nI pN), .long k0, .long k1, .int now, .ref x_wd, .ref x_beg, .ref x_std, .ref x_dea, .ref x_frm, .ref x_alv, .ref x_stm, .ref x_mov, .ref x_dwn, .ref x_ctd, .ref x_cutm, .ref x_pha, .ref x_usd, .ref x_gol, .ref x_esr, .ref x_epo, .ref x_offm, .ref x_ast, .ref x_opn, .ref x_ssr, .ref x_spo, .ref x_awa, .ref x_dat, .int kpt, .ref x_hd, .int by0, .int to0, .int rep, .int had, .int ost, .int bst, .ref x_inr]]) := by
  refine zx_head (by decide) (Nat.le_of_ble_eq_true rfl) ?_
  intro _ _ _ _ _ _ _ _ _ hF hr hlk hnm
  refine zx_aload_n (pc := 0) hF d_Mod_path_0 rfl 0 rfl ?_
  refine zx_iload_n (pc := 1) hF d_Mod_path_1 rfl 1 rfl ?_
  refine zx_Vi (pc := 2) hF (As := [.int (nI b)]) (rest := []) (fun sz => M_Mod_isBalancer l D K M m0 bN sN0 pN k0 k1 now x_wd x_beg x_std x_dea x_frm x_alv x_stm x_mov x_dwn x_ctd x_cutm x_pha x_usd x_gol x_esr x_epo x_offm x_ast x_opn x_ssr x_spo x_awa x_dat kpt x_hd by0 to0 rep had ost bst x_inr (nI b)  sz) [0] rfl (by decide) (as := [m0]) rfl rfl (ws' := [cO m0 11 [.int (nI bN), .int (nI sN0), .int (nI pN), .long k0, .long k1, .int now, .ref x_wd, .ref x_beg, .ref x_std, .ref x_dea, .ref x_frm, .ref x_alv, .ref x_stm, .ref x_mov, .ref x_dwn, .ref x_ctd, .ref x_cutm, .ref x_pha, .ref x_usd, .ref x_gol, .ref x_esr, .ref x_epo, .ref x_offm, .ref x_ast, .ref x_opn, .ref x_ssr, .ref x_spo, .ref x_awa, .ref x_dat, .int kpt, .ref x_hd, .int by0, .int to0, .int rep, .int had, .int ost, .int bst, .ref x_inr]]) rfl 0 11 rfl rfl rfl (cw_Mod_186 hF.2.2.2.2.1 rfl rfl ⟨by decide, by decide⟩) rfl rfl (Nat.le_of_ble_eq_true rfl) d_Mod_path_2 ⟨Nat.zero_le _, Nat.zero_le _⟩ ?_
  refine zx_topi 1 (g_is_in hb (by omega)) ?_
  refine zx_if_eq (pc := 5) hF d_Mod_path_5 (tgt := 31) rfl (fun h5 => ?_) (fun h5 => ?_)
  · exact absurd h5 (by decide)
  · refine zx_aload_n (pc := 8) hF d_Mod_path_8 rfl 0 rfl ?_
    refine zx_iload_n (pc := 9) hF d_Mod_path_9 rfl 2 rfl ?_
    refine zx_Vi (pc := 10) hF (As := [.int q]) (rest := []) (fun sz => M_Mod_isServer l D K M m0 bN sN0 pN k0 k1 now x_wd x_beg x_std x_dea x_frm x_alv x_stm x_mov x_dwn x_ctd x_cutm x_pha x_usd x_gol x_esr x_epo x_offm x_ast x_opn x_ssr x_spo x_awa x_dat kpt x_hd by0 to0 rep had ost bst x_inr q  sz) [0] rfl (by decide) (as := [m0]) rfl rfl (ws' := [cO m0 11 [.int (nI bN), .int (nI sN0), .int (nI pN), .long k0, .long k1, .int now, .ref x_wd, .ref x_beg, .ref x_std, .ref x_dea, .ref x_frm, .ref x_alv, .ref x_stm, .ref x_mov, .ref x_dwn, .ref x_ctd, .ref x_cutm, .ref x_pha, .ref x_usd, .ref x_gol, .ref x_esr, .ref x_epo, .ref x_offm, .ref x_ast, .ref x_opn, .ref x_ssr, .ref x_spo, .ref x_awa, .ref x_dat, .int kpt, .ref x_hd, .int by0, .int to0, .int rep, .int had, .int ost, .int bst, .ref x_inr]]) rfl 0 11 rfl rfl rfl (cw_Mod_192 hF.2.2.2.2.1 rfl rfl ⟨by decide, by decide⟩) rfl rfl (Nat.le_of_ble_eq_true rfl) d_Mod_path_10 ⟨Nat.zero_le _, Nat.zero_le _⟩ ?_
    refine zx_topi 0 (hq) ?_
    refine zx_if_eq (pc := 13) hF d_Mod_path_13 (tgt := 31) rfl (fun h13 => ?_) (fun h13 => ?_)
    · refine zx_iconst (pc := 31) hF d_Mod_path_31 k_i0 ?_
      exact zx_zret (pc := 32) hF hr hlk rfl (by first | rfl | (simp only []; done) | (simp only [↓reduceIte]; done) | simp []) (by first | rfl | (simp only []; done) | (simp only [↓reduceIte]; done) | simp []) d_Mod_path_32
    · exact absurd h13 (by decide)
set_option maxRecDepth 20000 in
theorem M_Mod_meets (l : Launch) (D : va_G) (K : Nat → ClassId) (M : List (ClassId × FieldType)) (m0 : Nat) (bN : Nat) (sN0 : Nat) (pN : Nat) (k0 : Int64) (k1 : Int64) (now : Int32) (x_wd : Nat) (x_beg : Nat) (x_std : Nat) (x_dea : Nat) (x_frm : Nat) (x_alv : Nat) (x_stm : Nat) (x_mov : Nat) (x_dwn : Nat) (x_ctd : Nat) (x_cutm : Nat) (x_pha : Nat) (x_usd : Nat) (x_gol : Nat) (x_esr : Nat) (x_epo : Nat) (x_offm : Nat) (x_ast : Nat) (x_opn : Nat) (x_ssr : Nat) (x_spo : Nat) (x_awa : Nat) (x_dat : Nat) (kpt : Int32) (x_hd : Nat) (by0 : Int32) (to0 : Int32) (rep : Int32) (had : Int32) (ost : Int32) (bst : Int32) (x_inr : Nat) (offm : Nat → Int32) (cutm : Nat → Int32) (b : Nat) (q : Nat) (hB : bN ≤ 4) (hS : 0 < sN0 ∧ sN0 ≤ 8) (hb : b < bN) (hq : q < sN0) (sz : Nat) : zM l y_Mod_meets (zT y_Mod_meets b_Mod_meets 3 (some .boolean)) (zR 0 0) 0 0 D K M [.ref m0, .int (nI b), .int (nI q)] [cO m0 11 [.int (nI bN), .int (nI sN0), .int (nI pN), .long k0, .long k1, .int now, .ref x_wd, .ref x_beg, .ref x_std, .ref x_dea, .ref x_frm, .ref x_alv, .ref x_stm, .ref x_mov, .ref x_dwn, .ref x_ctd, .ref x_cutm, .ref x_pha, .ref x_usd, .ref x_gol, .ref x_esr, .ref x_epo, .ref x_offm, .ref x_ast, .ref x_opn, .ref x_ssr, .ref x_spo, .ref x_awa, .ref x_dat, .int kpt, .ref x_hd, .int by0, .int to0, .int rep, .int had, .int ost, .int bst, .ref x_inr], cZ K x_offm 8 offm, cZ K x_cutm 32 cutm] sz (zQi D K M (g_meets offm cutm b q) [cO m0 11 [.int (nI bN), .int (nI sN0), .int (nI pN), .long k0, .long k1, .int now, .ref x_wd, .ref x_beg, .ref x_std, .ref x_dea, .ref x_frm, .ref x_alv, .ref x_stm, .ref x_mov, .ref x_dwn, .ref x_ctd, .ref x_cutm, .ref x_pha, .ref x_usd, .ref x_gol, .ref x_esr, .ref x_epo, .ref x_offm, .ref x_ast, .ref x_opn, .ref x_ssr, .ref x_spo, .ref x_awa, .ref x_dat, .int kpt, .ref x_hd, .int by0, .int to0, .int rep, .int had, .int ost, .int bst, .ref x_inr], cZ K x_offm 8 offm, cZ K x_cutm 32 cutm]) := by
  refine zx_head (by decide) (Nat.le_of_ble_eq_true rfl) ?_
  intro _ _ _ _ _ _ _ _ _ hF hr hlk hnm
  refine zx_aload_n (pc := 0) hF d_Mod_meets_0 rfl 0 rfl ?_
  refine zg_Mod_60 (pc := 1) hF 0 rfl rfl d_Mod_meets_1 ?_
  refine zx_iload_n (pc := 4) hF d_Mod_meets_4 rfl 2 rfl ?_
  refine zx_zaldn (pc := 5) hF (i := q) 1 rfl (by omega) (by omega) d_Mod_meets_5 ?_
  refine zx_if_ne (pc := 6) hF d_Mod_meets_6 (tgt := 27) rfl (fun h6 => ?_) (fun h6 => ?_)
  · refine zx_iconst (pc := 27) hF d_Mod_meets_27 k_i0 ?_
    exact zx_zret (pc := 28) hF hr hlk rfl (by first | with_reducible rfl | (simp only [g_meets, if_neg h6]; done) | (simp only [g_meets, h6, ↓reduceIte]; done) | simp [g_meets, h6]) (by first | with_reducible rfl | (simp only [g_meets, if_neg h6]; done) | (simp only [g_meets, h6, ↓reduceIte]; done) | simp [g_meets, h6]) d_Mod_meets_28
  · refine zx_aload_n (pc := 9) hF d_Mod_meets_9 rfl 0 rfl ?_
    refine zg_Mod_42 (pc := 10) hF 0 rfl rfl d_Mod_meets_10 ?_
    refine zx_bipush (pc := 13) hF d_Mod_meets_13 k_b8 ?_
    refine zx_iload_n (pc := 15) hF d_Mod_meets_15 rfl 1 rfl ?_
    refine zx_imul (pc := 16) hF d_Mod_meets_16 ?_
    refine zx_topi (nI (8 * b)) (pk_mul 8 b) ?_
    refine zx_iload_n (pc := 17) hF d_Mod_meets_17 rfl 2 rfl ?_
    refine zx_iadd (pc := 18) hF d_Mod_meets_18 ?_
    refine zx_topi (nI ((8 * b) + q)) (nI_add (8 * b) q) ?_
    refine zx_zaldn (pc := 19) hF (i := (8 * b) + q) 2 rfl (by omega) (by omega) d_Mod_meets_19 ?_
    refine zx_if_ne (pc := 20) hF d_Mod_meets_20 (tgt := 27) rfl (fun h20 => ?_) (fun h20 => ?_)
    · refine zx_iconst (pc := 27) hF d_Mod_meets_27 k_i0 ?_
      exact zx_zret (pc := 28) hF hr hlk rfl (by first | with_reducible rfl | (simp only [g_meets, if_pos h6, if_neg h20]; done) | (simp only [g_meets, h6, h20, ↓reduceIte]; done) | simp [g_meets, h6, h20]) (by first | with_reducible rfl | (simp only [g_meets, if_pos h6, if_neg h20]; done) | (simp only [g_meets, h6, h20, ↓reduceIte]; done) | simp [g_meets, h6, h20]) d_Mod_meets_28
    · refine zx_iconst (pc := 23) hF d_Mod_meets_23 k_i1 ?_
      refine zx_goto (pc := 24) hF d_Mod_meets_24 (tgt := 28) rfl ?_
      exact zx_zret (pc := 28) hF hr hlk rfl (by first | with_reducible rfl | (simp only [g_meets, if_pos h6, if_pos h20]; done) | (simp only [g_meets, h6, h20, ↓reduceIte]; done) | simp [g_meets, h6, h20]) (by first | with_reducible rfl | (simp only [g_meets, if_pos h6, if_pos h20]; done) | (simp only [g_meets, h6, h20, ↓reduceIte]; done) | simp [g_meets, h6, h20]) d_Mod_meets_28
