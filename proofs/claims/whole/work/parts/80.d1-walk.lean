set_option maxRecDepth 20000 in
theorem M_Mod_segment_k (l : Launch) (D : va_G) (K : Nat → ClassId) (M : List (ClassId × FieldType)) (m0 : Nat) (bN : Nat) (sN0 : Nat) (pN : Nat) (k0 : Int64) (k1 : Int64) (now : Int32) (x_wd : Nat) (x_beg : Nat) (x_std : Nat) (x_dea : Nat) (x_frm : Nat) (x_alv : Nat) (x_stm : Nat) (x_mov : Nat) (x_dwn : Nat) (x_ctd : Nat) (x_cutm : Nat) (x_pha : Nat) (x_usd : Nat) (x_gol : Nat) (x_esr : Nat) (x_epo : Nat) (x_offm : Nat) (x_ast : Nat) (x_opn : Nat) (x_ssr : Nat) (x_spo : Nat) (x_awa : Nat) (x_dat : Nat) (kpt : Int32) (x_hd : Nat) (by0 : Int32) (to0 : Int32) (rep : Int32) (had : Int32) (ost : Int32) (bst : Int32) (x_inr : Nat) (p0 : Int32) (sq : Int32) (fl : Int32) (hf1 : ¬ fl = 2) (hf2 : ¬ fl = 16) (hf3 : ¬ fl = 17) (hf4 : ¬ fl = 4) (sz : Nat) : zM l y_Mod_segment (zT y_Mod_segment b_Mod_segment 11 (some .int)) (zR 6 139) 0 0 D K M [.ref m0, .int p0, .int sq, .int fl] [cO m0 11 [.int (nI bN), .int (nI sN0), .int (nI pN), .long k0, .long k1, .int now, .ref x_wd, .ref x_beg, .ref x_std, .ref x_dea, .ref x_frm, .ref x_alv, .ref x_stm, .ref x_mov, .ref x_dwn, .ref x_ctd, .ref x_cutm, .ref x_pha, .ref x_usd, .ref x_gol, .ref x_esr, .ref x_epo, .ref x_offm, .ref x_ast, .ref x_opn, .ref x_ssr, .ref x_spo, .ref x_awa, .ref x_dat, .int kpt, .ref x_hd, .int by0, .int to0, .int rep, .int had, .int ost, .int bst, .ref x_inr]] sz (zQi D K M (-4) [cO m0 11 [.int (nI bN), .int (nI sN0), .int (nI pN), .long k0, .long k1, .int now, .ref x_wd, .ref x_beg, .ref x_std, .ref x_dea, .ref x_frm, .ref x_alv, .ref x_stm, .ref x_mov, .ref x_dwn, .ref x_ctd, .ref x_cutm, .ref x_pha, .ref x_usd, .ref x_gol, .ref x_esr, .ref x_epo, .ref x_offm, .ref x_ast, .ref x_opn, .ref x_ssr, .ref x_spo, .ref x_awa, .ref x_dat, .int kpt, .ref x_hd, .int by0, .int to0, .int rep, .int had, .int ost, .int bst, .ref x_inr]]) := by
  refine zx_head (by decide) (Nat.le_of_ble_eq_true rfl) ?_
  intro _ _ _ _ _ _ _ _ _ hF hr hlk hnm
  refine zx_iload_n (pc := 0) hF d_Mod_segment_0 rfl 3 rfl ?_
  refine zx_iconst (pc := 1) hF d_Mod_segment_1 k_i2 ?_
  refine zx_icmp_eq (pc := 2) hF d_Mod_segment_2 (tgt := 25) rfl (fun h2 => ?_) (fun h2 => ?_)
  · exact absurd h2 hf1
  · refine zx_iload_n (pc := 5) hF d_Mod_segment_5 rfl 3 rfl ?_
    refine zx_bipush (pc := 6) hF d_Mod_segment_6 k_b16 ?_
    refine zx_icmp_eq (pc := 8) hF d_Mod_segment_8 (tgt := 25) rfl (fun h8 => ?_) (fun h8 => ?_)
    · exact absurd h8 hf2
    · refine zx_iload_n (pc := 11) hF d_Mod_segment_11 rfl 3 rfl ?_
      refine zx_bipush (pc := 12) hF d_Mod_segment_12 k_b17 ?_
      refine zx_icmp_eq (pc := 14) hF d_Mod_segment_14 (tgt := 25) rfl (fun h14 => ?_) (fun h14 => ?_)
      · exact absurd h14 hf3
      · refine zx_iload_n (pc := 17) hF d_Mod_segment_17 rfl 3 rfl ?_
        refine zx_iconst (pc := 18) hF d_Mod_segment_18 k_i4 ?_
        refine zx_icmp_eq (pc := 19) hF d_Mod_segment_19 (tgt := 25) rfl (fun h19 => ?_) (fun h19 => ?_)
        · exact absurd h19 hf4
        · refine zx_bipush (pc := 22) hF d_Mod_segment_22 k_bm4 ?_
          exact zx_iret (pc := 24) hF hr hlk (by first | rfl | (simp only [if_neg h2, if_neg h8, if_neg h14, if_neg h19]; done) | (simp only [h2, h8, h14, h19, ↓reduceIte]; done) | simp [h2, h8, h14, h19]) (by first | rfl | (simp only [if_neg h2, if_neg h8, if_neg h14, if_neg h19]; done) | (simp only [h2, h8, h14, h19, ↓reduceIte]; done) | simp [h2, h8, h14, h19]) d_Mod_segment_24
set_option maxRecDepth 20000 in
theorem M_Mod_segment_h (l : Launch) (D : va_G) (K : Nat → ClassId) (M : List (ClassId × FieldType)) (m0 : Nat) (bN : Nat) (sN0 : Nat) (pN : Nat) (k0 : Int64) (k1 : Int64) (now : Int32) (x_wd : Nat) (x_beg : Nat) (x_std : Nat) (x_dea : Nat) (x_frm : Nat) (x_alv : Nat) (x_stm : Nat) (x_mov : Nat) (x_dwn : Nat) (x_ctd : Nat) (x_cutm : Nat) (x_pha : Nat) (x_usd : Nat) (x_gol : Nat) (x_esr : Nat) (x_epo : Nat) (x_offm : Nat) (x_ast : Nat) (x_opn : Nat) (x_ssr : Nat) (x_spo : Nat) (x_awa : Nat) (x_dat : Nat) (kpt : Int32) (x_hd : Nat) (by0 : Int32) (to0 : Int32) (rep : Int32) (had : Int32) (ost : Int32) (bst : Int32) (x_inr : Nat) (p0 : Int32) (sq : Int32) (fl : Int32) (hfl : fl = 2 ∨ fl = 16 ∨ fl = 17 ∨ fl = 4) (hk : kpt = 0) (sz : Nat) : zM l y_Mod_segment (zT y_Mod_segment b_Mod_segment 11 (some .int)) (zR 6 139) 0 0 D K M [.ref m0, .int p0, .int sq, .int fl] [cO m0 11 [.int (nI bN), .int (nI sN0), .int (nI pN), .long k0, .long k1, .int now, .ref x_wd, .ref x_beg, .ref x_std, .ref x_dea, .ref x_frm, .ref x_alv, .ref x_stm, .ref x_mov, .ref x_dwn, .ref x_ctd, .ref x_cutm, .ref x_pha, .ref x_usd, .ref x_gol, .ref x_esr, .ref x_epo, .ref x_offm, .ref x_ast, .ref x_opn, .ref x_ssr, .ref x_spo, .ref x_awa, .ref x_dat, .int kpt, .ref x_hd, .int by0, .int to0, .int rep, .int had, .int ost, .int bst, .ref x_inr]] sz (zQi D K M (-2) [cO m0 11 [.int (nI bN), .int (nI sN0), .int (nI pN), .long k0, .long k1, .int now, .ref x_wd, .ref x_beg, .ref x_std, .ref x_dea, .ref x_frm, .ref x_alv, .ref x_stm, .ref x_mov, .ref x_dwn, .ref x_ctd, .ref x_cutm, .ref x_pha, .ref x_usd, .ref x_gol, .ref x_esr, .ref x_epo, .ref x_offm, .ref x_ast, .ref x_opn, .ref x_ssr, .ref x_spo, .ref x_awa, .ref x_dat, .int kpt, .ref x_hd, .int by0, .int to0, .int rep, .int had, .int ost, .int bst, .ref x_inr]]) := by
  refine zx_head (by decide) (Nat.le_of_ble_eq_true rfl) ?_
  intro _ _ _ _ _ _ _ _ _ hF hr hlk hnm
  refine zx_iload_n (pc := 0) hF d_Mod_segment_0 rfl 3 rfl ?_
  refine zx_iconst (pc := 1) hF d_Mod_segment_1 k_i2 ?_
  refine zx_icmp_eq (pc := 2) hF d_Mod_segment_2 (tgt := 25) rfl (fun h2 => ?_) (fun h2 => ?_)
  · refine zx_aload_n (pc := 25) hF d_Mod_segment_25 rfl 0 rfl ?_
    refine zg_Mod_148 (pc := 26) hF 0 rfl rfl d_Mod_segment_26 ?_
    refine zx_if_ne (pc := 29) hF d_Mod_segment_29 (tgt := 35) rfl (fun h29 => ?_) (fun h29 => ?_)
    · exact absurd hk h29
    · refine zx_bipush (pc := 32) hF d_Mod_segment_32 k_bm2 ?_
      exact zx_iret (pc := 34) hF hr hlk (by first | rfl | (simp only [if_pos h2, if_pos h29]; done) | (simp only [h2, h29, ↓reduceIte]; done) | simp [h2, h29]) (by first | rfl | (simp only [if_pos h2, if_pos h29]; done) | (simp only [h2, h29, ↓reduceIte]; done) | simp [h2, h29]) d_Mod_segment_34
  · refine zx_iload_n (pc := 5) hF d_Mod_segment_5 rfl 3 rfl ?_
    refine zx_bipush (pc := 6) hF d_Mod_segment_6 k_b16 ?_
    refine zx_icmp_eq (pc := 8) hF d_Mod_segment_8 (tgt := 25) rfl (fun h8 => ?_) (fun h8 => ?_)
    · refine zx_aload_n (pc := 25) hF d_Mod_segment_25 rfl 0 rfl ?_
      refine zg_Mod_148 (pc := 26) hF 0 rfl rfl d_Mod_segment_26 ?_
      refine zx_if_ne (pc := 29) hF d_Mod_segment_29 (tgt := 35) rfl (fun h29 => ?_) (fun h29 => ?_)
      · exact absurd hk h29
      · refine zx_bipush (pc := 32) hF d_Mod_segment_32 k_bm2 ?_
        exact zx_iret (pc := 34) hF hr hlk (by first | rfl | (simp only [if_neg h2, if_pos h8, if_pos h29]; done) | (simp only [h2, h8, h29, ↓reduceIte]; done) | simp [h2, h8, h29]) (by first | rfl | (simp only [if_neg h2, if_pos h8, if_pos h29]; done) | (simp only [h2, h8, h29, ↓reduceIte]; done) | simp [h2, h8, h29]) d_Mod_segment_34
    · refine zx_iload_n (pc := 11) hF d_Mod_segment_11 rfl 3 rfl ?_
      refine zx_bipush (pc := 12) hF d_Mod_segment_12 k_b17 ?_
      refine zx_icmp_eq (pc := 14) hF d_Mod_segment_14 (tgt := 25) rfl (fun h14 => ?_) (fun h14 => ?_)
      · refine zx_aload_n (pc := 25) hF d_Mod_segment_25 rfl 0 rfl ?_
        refine zg_Mod_148 (pc := 26) hF 0 rfl rfl d_Mod_segment_26 ?_
        refine zx_if_ne (pc := 29) hF d_Mod_segment_29 (tgt := 35) rfl (fun h29 => ?_) (fun h29 => ?_)
        · exact absurd hk h29
        · refine zx_bipush (pc := 32) hF d_Mod_segment_32 k_bm2 ?_
          exact zx_iret (pc := 34) hF hr hlk (by first | rfl | (simp only [if_neg h2, if_neg h8, if_pos h14, if_pos h29]; done) | (simp only [h2, h8, h14, h29, ↓reduceIte]; done) | simp [h2, h8, h14, h29]) (by first | rfl | (simp only [if_neg h2, if_neg h8, if_pos h14, if_pos h29]; done) | (simp only [h2, h8, h14, h29, ↓reduceIte]; done) | simp [h2, h8, h14, h29]) d_Mod_segment_34
      · refine zx_iload_n (pc := 17) hF d_Mod_segment_17 rfl 3 rfl ?_
        refine zx_iconst (pc := 18) hF d_Mod_segment_18 k_i4 ?_
        refine zx_icmp_eq (pc := 19) hF d_Mod_segment_19 (tgt := 25) rfl (fun h19 => ?_) (fun h19 => ?_)
        · refine zx_aload_n (pc := 25) hF d_Mod_segment_25 rfl 0 rfl ?_
          refine zg_Mod_148 (pc := 26) hF 0 rfl rfl d_Mod_segment_26 ?_
          refine zx_if_ne (pc := 29) hF d_Mod_segment_29 (tgt := 35) rfl (fun h29 => ?_) (fun h29 => ?_)
          · exact absurd hk h29
          · refine zx_bipush (pc := 32) hF d_Mod_segment_32 k_bm2 ?_
            exact zx_iret (pc := 34) hF hr hlk (by first | rfl | (simp only [if_neg h2, if_neg h8, if_neg h14, if_pos h19, if_pos h29]; done) | (simp only [h2, h8, h14, h19, h29, ↓reduceIte]; done) | simp [h2, h8, h14, h19, h29]) (by first | rfl | (simp only [if_neg h2, if_neg h8, if_neg h14, if_pos h19, if_pos h29]; done) | (simp only [h2, h8, h14, h19, h29, ↓reduceIte]; done) | simp [h2, h8, h14, h19, h29]) d_Mod_segment_34
        · exact absurd hfl (by rintro (z | z | z | z); exact h2 z; exact h8 z; exact h14 z; exact h19 z)
set_option maxRecDepth 20000 in
theorem M_Mod_segment_r (l : Launch) (D : va_G) (K : Nat → ClassId) (M : List (ClassId × FieldType)) (m0 : Nat) (bN : Nat) (sN0 : Nat) (pN : Nat) (k0 : Int64) (k1 : Int64) (now : Int32) (x_wd : Nat) (x_beg : Nat) (x_std : Nat) (x_dea : Nat) (x_frm : Nat) (x_alv : Nat) (x_stm : Nat) (x_mov : Nat) (x_dwn : Nat) (x_ctd : Nat) (x_cutm : Nat) (x_pha : Nat) (x_usd : Nat) (x_gol : Nat) (x_esr : Nat) (x_epo : Nat) (x_offm : Nat) (x_ast : Nat) (x_opn : Nat) (x_ssr : Nat) (x_spo : Nat) (x_awa : Nat) (x_dat : Nat) (kpt : Int32) (x_hd : Nat) (by0 : Int32) (to0 : Int32) (rep : Int32) (had : Int32) (ost : Int32) (bst : Int32) (x_inr : Nat) (wd : Nat → Int64) (alv : Nat → Int32) (hd : Nat → Int32) (dwn : Nat → Int32) (p0 : Int32) (sq : Int32) (fl : Int32) (hB : bN ≤ 4) (hS : 0 < sN0 ∧ sN0 ≤ 8) (hfl : fl = 2 ∨ fl = 16 ∨ fl = 17 ∨ fl = 4) (hk : ¬ kpt = 0) (hr0 : g_route alv bN (g_dig k0 k1 (g_join (hd 3) p0) wd) < 0) (sz : Nat) : zM l y_Mod_segment (zT y_Mod_segment b_Mod_segment 11 (some .int)) (zR 6 139) 0 0 D K M [.ref m0, .int p0, .int sq, .int fl] [cO m0 11 [.int (nI bN), .int (nI sN0), .int (nI pN), .long k0, .long k1, .int now, .ref x_wd, .ref x_beg, .ref x_std, .ref x_dea, .ref x_frm, .ref x_alv, .ref x_stm, .ref x_mov, .ref x_dwn, .ref x_ctd, .ref x_cutm, .ref x_pha, .ref x_usd, .ref x_gol, .ref x_esr, .ref x_epo, .ref x_offm, .ref x_ast, .ref x_opn, .ref x_ssr, .ref x_spo, .ref x_awa, .ref x_dat, .int kpt, .ref x_hd, .int by0, .int to0, .int rep, .int had, .int ost, .int bst, .ref x_inr], cJ K x_wd 4 wd, cZ K x_alv 4 alv, cI K x_hd 5 hd, cZ K x_dwn 32 dwn] sz (zQi D K M (-3) [cO m0 11 [.int (nI bN), .int (nI sN0), .int (nI pN), .long k0, .long k1, .int now, .ref x_wd, .ref x_beg, .ref x_std, .ref x_dea, .ref x_frm, .ref x_alv, .ref x_stm, .ref x_mov, .ref x_dwn, .ref x_ctd, .ref x_cutm, .ref x_pha, .ref x_usd, .ref x_gol, .ref x_esr, .ref x_epo, .ref x_offm, .ref x_ast, .ref x_opn, .ref x_ssr, .ref x_spo, .ref x_awa, .ref x_dat, .int kpt, .ref x_hd, .int by0, .int to0, .int rep, .int had, .int ost, .int bst, .ref x_inr], cJ K x_wd 4 (g_end k0 k1 (g_join (hd 3) p0) wd), cZ K x_alv 4 alv, cI K x_hd 5 hd, cZ K x_dwn 32 dwn]) := by
  refine zx_head (by decide) (Nat.le_of_ble_eq_true rfl) ?_
  intro _ _ _ _ _ _ _ _ _ hF hr hlk hnm
  refine zx_iload_n (pc := 0) hF d_Mod_segment_0 rfl 3 rfl ?_
  refine zx_iconst (pc := 1) hF d_Mod_segment_1 k_i2 ?_
  refine zx_icmp_eq (pc := 2) hF d_Mod_segment_2 (tgt := 25) rfl (fun h2 => ?_) (fun h2 => ?_)
  · refine zx_aload_n (pc := 25) hF d_Mod_segment_25 rfl 0 rfl ?_
    refine zg_Mod_148 (pc := 26) hF 0 rfl rfl d_Mod_segment_26 ?_
    refine zx_if_ne (pc := 29) hF d_Mod_segment_29 (tgt := 35) rfl (fun h29 => ?_) (fun h29 => ?_)
    · refine zx_aload_n (pc := 35) hF d_Mod_segment_35 rfl 0 rfl ?_
      refine zg_Mod_81 (pc := 36) hF 0 rfl rfl d_Mod_segment_36 ?_
      refine zx_iconst (pc := 39) hF d_Mod_segment_39 k_i3 ?_
      refine zx_ialdn (pc := 40) hF (i := 3) 3 rfl (by omega) (by omega) d_Mod_segment_40 ?_
      refine zx_istore (pc := 41) hF (lv' := [(4, .int (hd 3)), (0, .ref m0), (1, .int p0), (2, .int sq), (3, .int fl)]) d_Mod_segment_41 (by decide) rfl ?_
      refine zx_aload_n (pc := 43) hF d_Mod_segment_43 rfl 1 rfl ?_
      refine zx_iload (pc := 44) hF d_Mod_segment_44 0 rfl ?_
      refine zx_iload_n (pc := 46) hF d_Mod_segment_46 rfl 2 rfl ?_
      refine zx_Vl (pc := 47) hF (As := [.int (hd 3), .int p0]) (rest := []) (fun sz => M_Mod_digest l D K M m0 bN sN0 pN k0 k1 now x_wd x_beg x_std x_dea x_frm x_alv x_stm x_mov x_dwn x_ctd x_cutm x_pha x_usd x_gol x_esr x_epo x_offm x_ast x_opn x_ssr x_spo x_awa x_dat kpt x_hd by0 to0 rep had ost bst x_inr wd (hd 3) p0  sz) [0, 1] rfl (by decide) (as := [m0, x_wd]) rfl rfl (ws' := [cO m0 11 [.int (nI bN), .int (nI sN0), .int (nI pN), .long k0, .long k1, .int now, .ref x_wd, .ref x_beg, .ref x_std, .ref x_dea, .ref x_frm, .ref x_alv, .ref x_stm, .ref x_mov, .ref x_dwn, .ref x_ctd, .ref x_cutm, .ref x_pha, .ref x_usd, .ref x_gol, .ref x_esr, .ref x_epo, .ref x_offm, .ref x_ast, .ref x_opn, .ref x_ssr, .ref x_spo, .ref x_awa, .ref x_dat, .int kpt, .ref x_hd, .int by0, .int to0, .int rep, .int had, .int ost, .int bst, .ref x_inr], cJ K x_wd 4 (g_end k0 k1 (g_join (hd 3) p0) wd), cZ K x_alv 4 alv, cI K x_hd 5 hd, cZ K x_dwn 32 dwn]) rfl 0 11 rfl rfl rfl (cw_Mod_205 hF.2.2.2.2.1 rfl rfl ⟨by decide, by decide⟩) rfl rfl (Nat.le_of_ble_eq_true rfl) d_Mod_segment_47 ⟨Nat.zero_le _, Nat.zero_le _⟩ ?_
      refine zx_lstore (pc := 50) hF (lv' := [(5, .long (g_dig k0 k1 (g_join (hd 3) p0) wd)), (4, .int (hd 3)), (0, .ref m0), (1, .int p0), (2, .int sq), (3, .int fl)]) d_Mod_segment_50 (by decide) rfl ?_
      refine zx_aload_n (pc := 52) hF d_Mod_segment_52 rfl 2 rfl ?_
      refine zx_lload (pc := 53) hF d_Mod_segment_53 0 rfl ?_
      refine zx_Vi (pc := 55) hF (As := [.long (g_dig k0 k1 (g_join (hd 3) p0) wd)]) (rest := []) (fun sz => M_Mod_route l D K M m0 bN sN0 pN k0 k1 now x_wd x_beg x_std x_dea x_frm x_alv x_stm x_mov x_dwn x_ctd x_cutm x_pha x_usd x_gol x_esr x_epo x_offm x_ast x_opn x_ssr x_spo x_awa x_dat kpt x_hd by0 to0 rep had ost bst x_inr alv (g_dig k0 k1 (g_join (hd 3) p0) wd) (by first | assumption | omega) (by first | assumption | omega) sz) [0, 2] rfl (by decide) (as := [m0, x_alv]) rfl rfl (ws' := [cO m0 11 [.int (nI bN), .int (nI sN0), .int (nI pN), .long k0, .long k1, .int now, .ref x_wd, .ref x_beg, .ref x_std, .ref x_dea, .ref x_frm, .ref x_alv, .ref x_stm, .ref x_mov, .ref x_dwn, .ref x_ctd, .ref x_cutm, .ref x_pha, .ref x_usd, .ref x_gol, .ref x_esr, .ref x_epo, .ref x_offm, .ref x_ast, .ref x_opn, .ref x_ssr, .ref x_spo, .ref x_awa, .ref x_dat, .int kpt, .ref x_hd, .int by0, .int to0, .int rep, .int had, .int ost, .int bst, .ref x_inr], cJ K x_wd 4 (g_end k0 k1 (g_join (hd 3) p0) wd), cZ K x_alv 4 alv, cI K x_hd 5 hd, cZ K x_dwn 32 dwn]) rfl 0 11 rfl rfl rfl (cw_Mod_209 hF.2.2.2.2.1 rfl rfl ⟨by decide, by decide⟩) rfl rfl (Nat.le_of_ble_eq_true rfl) d_Mod_segment_55 ⟨Nat.zero_le _, Nat.zero_le _⟩ ?_
      refine zx_istore (pc := 58) hF (lv' := [(7, .int (g_route alv bN (g_dig k0 k1 (g_join (hd 3) p0) wd))), (5, .long (g_dig k0 k1 (g_join (hd 3) p0) wd)), (4, .int (hd 3)), (0, .ref m0), (1, .int p0), (2, .int sq), (3, .int fl)]) d_Mod_segment_58 (by decide) rfl ?_
      refine zx_iload (pc := 60) hF d_Mod_segment_60 0 rfl ?_
      refine zx_if_ge (pc := 62) hF d_Mod_segment_62 (tgt := 68) rfl (fun h62 => ?_) (fun h62 => ?_)
      · exact absurd hr0 (Int32.not_lt.mpr h62)
      · refine zx_bipush (pc := 65) hF d_Mod_segment_65 k_bm3 ?_
        exact zx_iret (pc := 67) hF hr hlk (by first | rfl | (simp only [if_pos h2, if_neg h29, if_neg h62]; done) | (simp only [h2, h29, h62, ↓reduceIte]; done) | simp [h2, h29, h62]) (by first | rfl | (simp only [if_pos h2, if_neg h29, if_neg h62]; done) | (simp only [h2, h29, h62, ↓reduceIte]; done) | simp [h2, h29, h62]) d_Mod_segment_67
    · exact absurd h29 hk
  · refine zx_iload_n (pc := 5) hF d_Mod_segment_5 rfl 3 rfl ?_
    refine zx_bipush (pc := 6) hF d_Mod_segment_6 k_b16 ?_
    refine zx_icmp_eq (pc := 8) hF d_Mod_segment_8 (tgt := 25) rfl (fun h8 => ?_) (fun h8 => ?_)
    · refine zx_aload_n (pc := 25) hF d_Mod_segment_25 rfl 0 rfl ?_
      refine zg_Mod_148 (pc := 26) hF 0 rfl rfl d_Mod_segment_26 ?_
      refine zx_if_ne (pc := 29) hF d_Mod_segment_29 (tgt := 35) rfl (fun h29 => ?_) (fun h29 => ?_)
      · refine zx_aload_n (pc := 35) hF d_Mod_segment_35 rfl 0 rfl ?_
        refine zg_Mod_81 (pc := 36) hF 0 rfl rfl d_Mod_segment_36 ?_
        refine zx_iconst (pc := 39) hF d_Mod_segment_39 k_i3 ?_
        refine zx_ialdn (pc := 40) hF (i := 3) 3 rfl (by omega) (by omega) d_Mod_segment_40 ?_
        refine zx_istore (pc := 41) hF (lv' := [(4, .int (hd 3)), (0, .ref m0), (1, .int p0), (2, .int sq), (3, .int fl)]) d_Mod_segment_41 (by decide) rfl ?_
        refine zx_aload_n (pc := 43) hF d_Mod_segment_43 rfl 1 rfl ?_
        refine zx_iload (pc := 44) hF d_Mod_segment_44 0 rfl ?_
        refine zx_iload_n (pc := 46) hF d_Mod_segment_46 rfl 2 rfl ?_
        refine zx_Vl (pc := 47) hF (As := [.int (hd 3), .int p0]) (rest := []) (fun sz => M_Mod_digest l D K M m0 bN sN0 pN k0 k1 now x_wd x_beg x_std x_dea x_frm x_alv x_stm x_mov x_dwn x_ctd x_cutm x_pha x_usd x_gol x_esr x_epo x_offm x_ast x_opn x_ssr x_spo x_awa x_dat kpt x_hd by0 to0 rep had ost bst x_inr wd (hd 3) p0  sz) [0, 1] rfl (by decide) (as := [m0, x_wd]) rfl rfl (ws' := [cO m0 11 [.int (nI bN), .int (nI sN0), .int (nI pN), .long k0, .long k1, .int now, .ref x_wd, .ref x_beg, .ref x_std, .ref x_dea, .ref x_frm, .ref x_alv, .ref x_stm, .ref x_mov, .ref x_dwn, .ref x_ctd, .ref x_cutm, .ref x_pha, .ref x_usd, .ref x_gol, .ref x_esr, .ref x_epo, .ref x_offm, .ref x_ast, .ref x_opn, .ref x_ssr, .ref x_spo, .ref x_awa, .ref x_dat, .int kpt, .ref x_hd, .int by0, .int to0, .int rep, .int had, .int ost, .int bst, .ref x_inr], cJ K x_wd 4 (g_end k0 k1 (g_join (hd 3) p0) wd), cZ K x_alv 4 alv, cI K x_hd 5 hd, cZ K x_dwn 32 dwn]) rfl 0 11 rfl rfl rfl (cw_Mod_205 hF.2.2.2.2.1 rfl rfl ⟨by decide, by decide⟩) rfl rfl (Nat.le_of_ble_eq_true rfl) d_Mod_segment_47 ⟨Nat.zero_le _, Nat.zero_le _⟩ ?_
        refine zx_lstore (pc := 50) hF (lv' := [(5, .long (g_dig k0 k1 (g_join (hd 3) p0) wd)), (4, .int (hd 3)), (0, .ref m0), (1, .int p0), (2, .int sq), (3, .int fl)]) d_Mod_segment_50 (by decide) rfl ?_
        refine zx_aload_n (pc := 52) hF d_Mod_segment_52 rfl 2 rfl ?_
        refine zx_lload (pc := 53) hF d_Mod_segment_53 0 rfl ?_
        refine zx_Vi (pc := 55) hF (As := [.long (g_dig k0 k1 (g_join (hd 3) p0) wd)]) (rest := []) (fun sz => M_Mod_route l D K M m0 bN sN0 pN k0 k1 now x_wd x_beg x_std x_dea x_frm x_alv x_stm x_mov x_dwn x_ctd x_cutm x_pha x_usd x_gol x_esr x_epo x_offm x_ast x_opn x_ssr x_spo x_awa x_dat kpt x_hd by0 to0 rep had ost bst x_inr alv (g_dig k0 k1 (g_join (hd 3) p0) wd) (by first | assumption | omega) (by first | assumption | omega) sz) [0, 2] rfl (by decide) (as := [m0, x_alv]) rfl rfl (ws' := [cO m0 11 [.int (nI bN), .int (nI sN0), .int (nI pN), .long k0, .long k1, .int now, .ref x_wd, .ref x_beg, .ref x_std, .ref x_dea, .ref x_frm, .ref x_alv, .ref x_stm, .ref x_mov, .ref x_dwn, .ref x_ctd, .ref x_cutm, .ref x_pha, .ref x_usd, .ref x_gol, .ref x_esr, .ref x_epo, .ref x_offm, .ref x_ast, .ref x_opn, .ref x_ssr, .ref x_spo, .ref x_awa, .ref x_dat, .int kpt, .ref x_hd, .int by0, .int to0, .int rep, .int had, .int ost, .int bst, .ref x_inr], cJ K x_wd 4 (g_end k0 k1 (g_join (hd 3) p0) wd), cZ K x_alv 4 alv, cI K x_hd 5 hd, cZ K x_dwn 32 dwn]) rfl 0 11 rfl rfl rfl (cw_Mod_209 hF.2.2.2.2.1 rfl rfl ⟨by decide, by decide⟩) rfl rfl (Nat.le_of_ble_eq_true rfl) d_Mod_segment_55 ⟨Nat.zero_le _, Nat.zero_le _⟩ ?_
        refine zx_istore (pc := 58) hF (lv' := [(7, .int (g_route alv bN (g_dig k0 k1 (g_join (hd 3) p0) wd))), (5, .long (g_dig k0 k1 (g_join (hd 3) p0) wd)), (4, .int (hd 3)), (0, .ref m0), (1, .int p0), (2, .int sq), (3, .int fl)]) d_Mod_segment_58 (by decide) rfl ?_
        refine zx_iload (pc := 60) hF d_Mod_segment_60 0 rfl ?_
        refine zx_if_ge (pc := 62) hF d_Mod_segment_62 (tgt := 68) rfl (fun h62 => ?_) (fun h62 => ?_)
        · exact absurd hr0 (Int32.not_lt.mpr h62)
        · refine zx_bipush (pc := 65) hF d_Mod_segment_65 k_bm3 ?_
          exact zx_iret (pc := 67) hF hr hlk (by first | rfl | (simp only [if_neg h2, if_pos h8, if_neg h29, if_neg h62]; done) | (simp only [h2, h8, h29, h62, ↓reduceIte]; done) | simp [h2, h8, h29, h62]) (by first | rfl | (simp only [if_neg h2, if_pos h8, if_neg h29, if_neg h62]; done) | (simp only [h2, h8, h29, h62, ↓reduceIte]; done) | simp [h2, h8, h29, h62]) d_Mod_segment_67
      · exact absurd h29 hk
    · refine zx_iload_n (pc := 11) hF d_Mod_segment_11 rfl 3 rfl ?_
      refine zx_bipush (pc := 12) hF d_Mod_segment_12 k_b17 ?_
      refine zx_icmp_eq (pc := 14) hF d_Mod_segment_14 (tgt := 25) rfl (fun h14 => ?_) (fun h14 => ?_)
      · refine zx_aload_n (pc := 25) hF d_Mod_segment_25 rfl 0 rfl ?_
        refine zg_Mod_148 (pc := 26) hF 0 rfl rfl d_Mod_segment_26 ?_
        refine zx_if_ne (pc := 29) hF d_Mod_segment_29 (tgt := 35) rfl (fun h29 => ?_) (fun h29 => ?_)
        · refine zx_aload_n (pc := 35) hF d_Mod_segment_35 rfl 0 rfl ?_
          refine zg_Mod_81 (pc := 36) hF 0 rfl rfl d_Mod_segment_36 ?_
          refine zx_iconst (pc := 39) hF d_Mod_segment_39 k_i3 ?_
          refine zx_ialdn (pc := 40) hF (i := 3) 3 rfl (by omega) (by omega) d_Mod_segment_40 ?_
          refine zx_istore (pc := 41) hF (lv' := [(4, .int (hd 3)), (0, .ref m0), (1, .int p0), (2, .int sq), (3, .int fl)]) d_Mod_segment_41 (by decide) rfl ?_
          refine zx_aload_n (pc := 43) hF d_Mod_segment_43 rfl 1 rfl ?_
          refine zx_iload (pc := 44) hF d_Mod_segment_44 0 rfl ?_
          refine zx_iload_n (pc := 46) hF d_Mod_segment_46 rfl 2 rfl ?_
          refine zx_Vl (pc := 47) hF (As := [.int (hd 3), .int p0]) (rest := []) (fun sz => M_Mod_digest l D K M m0 bN sN0 pN k0 k1 now x_wd x_beg x_std x_dea x_frm x_alv x_stm x_mov x_dwn x_ctd x_cutm x_pha x_usd x_gol x_esr x_epo x_offm x_ast x_opn x_ssr x_spo x_awa x_dat kpt x_hd by0 to0 rep had ost bst x_inr wd (hd 3) p0  sz) [0, 1] rfl (by decide) (as := [m0, x_wd]) rfl rfl (ws' := [cO m0 11 [.int (nI bN), .int (nI sN0), .int (nI pN), .long k0, .long k1, .int now, .ref x_wd, .ref x_beg, .ref x_std, .ref x_dea, .ref x_frm, .ref x_alv, .ref x_stm, .ref x_mov, .ref x_dwn, .ref x_ctd, .ref x_cutm, .ref x_pha, .ref x_usd, .ref x_gol, .ref x_esr, .ref x_epo, .ref x_offm, .ref x_ast, .ref x_opn, .ref x_ssr, .ref x_spo, .ref x_awa, .ref x_dat, .int kpt, .ref x_hd, .int by0, .int to0, .int rep, .int had, .int ost, .int bst, .ref x_inr], cJ K x_wd 4 (g_end k0 k1 (g_join (hd 3) p0) wd), cZ K x_alv 4 alv, cI K x_hd 5 hd, cZ K x_dwn 32 dwn]) rfl 0 11 rfl rfl rfl (cw_Mod_205 hF.2.2.2.2.1 rfl rfl ⟨by decide, by decide⟩) rfl rfl (Nat.le_of_ble_eq_true rfl) d_Mod_segment_47 ⟨Nat.zero_le _, Nat.zero_le _⟩ ?_
          refine zx_lstore (pc := 50) hF (lv' := [(5, .long (g_dig k0 k1 (g_join (hd 3) p0) wd)), (4, .int (hd 3)), (0, .ref m0), (1, .int p0), (2, .int sq), (3, .int fl)]) d_Mod_segment_50 (by decide) rfl ?_
          refine zx_aload_n (pc := 52) hF d_Mod_segment_52 rfl 2 rfl ?_
          refine zx_lload (pc := 53) hF d_Mod_segment_53 0 rfl ?_
          refine zx_Vi (pc := 55) hF (As := [.long (g_dig k0 k1 (g_join (hd 3) p0) wd)]) (rest := []) (fun sz => M_Mod_route l D K M m0 bN sN0 pN k0 k1 now x_wd x_beg x_std x_dea x_frm x_alv x_stm x_mov x_dwn x_ctd x_cutm x_pha x_usd x_gol x_esr x_epo x_offm x_ast x_opn x_ssr x_spo x_awa x_dat kpt x_hd by0 to0 rep had ost bst x_inr alv (g_dig k0 k1 (g_join (hd 3) p0) wd) (by first | assumption | omega) (by first | assumption | omega) sz) [0, 2] rfl (by decide) (as := [m0, x_alv]) rfl rfl (ws' := [cO m0 11 [.int (nI bN), .int (nI sN0), .int (nI pN), .long k0, .long k1, .int now, .ref x_wd, .ref x_beg, .ref x_std, .ref x_dea, .ref x_frm, .ref x_alv, .ref x_stm, .ref x_mov, .ref x_dwn, .ref x_ctd, .ref x_cutm, .ref x_pha, .ref x_usd, .ref x_gol, .ref x_esr, .ref x_epo, .ref x_offm, .ref x_ast, .ref x_opn, .ref x_ssr, .ref x_spo, .ref x_awa, .ref x_dat, .int kpt, .ref x_hd, .int by0, .int to0, .int rep, .int had, .int ost, .int bst, .ref x_inr], cJ K x_wd 4 (g_end k0 k1 (g_join (hd 3) p0) wd), cZ K x_alv 4 alv, cI K x_hd 5 hd, cZ K x_dwn 32 dwn]) rfl 0 11 rfl rfl rfl (cw_Mod_209 hF.2.2.2.2.1 rfl rfl ⟨by decide, by decide⟩) rfl rfl (Nat.le_of_ble_eq_true rfl) d_Mod_segment_55 ⟨Nat.zero_le _, Nat.zero_le _⟩ ?_
          refine zx_istore (pc := 58) hF (lv' := [(7, .int (g_route alv bN (g_dig k0 k1 (g_join (hd 3) p0) wd))), (5, .long (g_dig k0 k1 (g_join (hd 3) p0) wd)), (4, .int (hd 3)), (0, .ref m0), (1, .int p0), (2, .int sq), (3, .int fl)]) d_Mod_segment_58 (by decide) rfl ?_
          refine zx_iload (pc := 60) hF d_Mod_segment_60 0 rfl ?_
          refine zx_if_ge (pc := 62) hF d_Mod_segment_62 (tgt := 68) rfl (fun h62 => ?_) (fun h62 => ?_)
          · exact absurd hr0 (Int32.not_lt.mpr h62)
          · refine zx_bipush (pc := 65) hF d_Mod_segment_65 k_bm3 ?_
            exact zx_iret (pc := 67) hF hr hlk (by first | rfl | (simp only [if_neg h2, if_neg h8, if_pos h14, if_neg h29, if_neg h62]; done) | (simp only [h2, h8, h14, h29, h62, ↓reduceIte]; done) | simp [h2, h8, h14, h29, h62]) (by first | rfl | (simp only [if_neg h2, if_neg h8, if_pos h14, if_neg h29, if_neg h62]; done) | (simp only [h2, h8, h14, h29, h62, ↓reduceIte]; done) | simp [h2, h8, h14, h29, h62]) d_Mod_segment_67
        · exact absurd h29 hk
      · refine zx_iload_n (pc := 17) hF d_Mod_segment_17 rfl 3 rfl ?_
        refine zx_iconst (pc := 18) hF d_Mod_segment_18 k_i4 ?_
        refine zx_icmp_eq (pc := 19) hF d_Mod_segment_19 (tgt := 25) rfl (fun h19 => ?_) (fun h19 => ?_)
        · refine zx_aload_n (pc := 25) hF d_Mod_segment_25 rfl 0 rfl ?_
          refine zg_Mod_148 (pc := 26) hF 0 rfl rfl d_Mod_segment_26 ?_
          refine zx_if_ne (pc := 29) hF d_Mod_segment_29 (tgt := 35) rfl (fun h29 => ?_) (fun h29 => ?_)
          · refine zx_aload_n (pc := 35) hF d_Mod_segment_35 rfl 0 rfl ?_
            refine zg_Mod_81 (pc := 36) hF 0 rfl rfl d_Mod_segment_36 ?_
            refine zx_iconst (pc := 39) hF d_Mod_segment_39 k_i3 ?_
            refine zx_ialdn (pc := 40) hF (i := 3) 3 rfl (by omega) (by omega) d_Mod_segment_40 ?_
            refine zx_istore (pc := 41) hF (lv' := [(4, .int (hd 3)), (0, .ref m0), (1, .int p0), (2, .int sq), (3, .int fl)]) d_Mod_segment_41 (by decide) rfl ?_
            refine zx_aload_n (pc := 43) hF d_Mod_segment_43 rfl 1 rfl ?_
            refine zx_iload (pc := 44) hF d_Mod_segment_44 0 rfl ?_
            refine zx_iload_n (pc := 46) hF d_Mod_segment_46 rfl 2 rfl ?_
            refine zx_Vl (pc := 47) hF (As := [.int (hd 3), .int p0]) (rest := []) (fun sz => M_Mod_digest l D K M m0 bN sN0 pN k0 k1 now x_wd x_beg x_std x_dea x_frm x_alv x_stm x_mov x_dwn x_ctd x_cutm x_pha x_usd x_gol x_esr x_epo x_offm x_ast x_opn x_ssr x_spo x_awa x_dat kpt x_hd by0 to0 rep had ost bst x_inr wd (hd 3) p0  sz) [0, 1] rfl (by decide) (as := [m0, x_wd]) rfl rfl (ws' := [cO m0 11 [.int (nI bN), .int (nI sN0), .int (nI pN), .long k0, .long k1, .int now, .ref x_wd, .ref x_beg, .ref x_std, .ref x_dea, .ref x_frm, .ref x_alv, .ref x_stm, .ref x_mov, .ref x_dwn, .ref x_ctd, .ref x_cutm, .ref x_pha, .ref x_usd, .ref x_gol, .ref x_esr, .ref x_epo, .ref x_offm, .ref x_ast, .ref x_opn, .ref x_ssr, .ref x_spo, .ref x_awa, .ref x_dat, .int kpt, .ref x_hd, .int by0, .int to0, .int rep, .int had, .int ost, .int bst, .ref x_inr], cJ K x_wd 4 (g_end k0 k1 (g_join (hd 3) p0) wd), cZ K x_alv 4 alv, cI K x_hd 5 hd, cZ K x_dwn 32 dwn]) rfl 0 11 rfl rfl rfl (cw_Mod_205 hF.2.2.2.2.1 rfl rfl ⟨by decide, by decide⟩) rfl rfl (Nat.le_of_ble_eq_true rfl) d_Mod_segment_47 ⟨Nat.zero_le _, Nat.zero_le _⟩ ?_
            refine zx_lstore (pc := 50) hF (lv' := [(5, .long (g_dig k0 k1 (g_join (hd 3) p0) wd)), (4, .int (hd 3)), (0, .ref m0), (1, .int p0), (2, .int sq), (3, .int fl)]) d_Mod_segment_50 (by decide) rfl ?_
            refine zx_aload_n (pc := 52) hF d_Mod_segment_52 rfl 2 rfl ?_
            refine zx_lload (pc := 53) hF d_Mod_segment_53 0 rfl ?_
            refine zx_Vi (pc := 55) hF (As := [.long (g_dig k0 k1 (g_join (hd 3) p0) wd)]) (rest := []) (fun sz => M_Mod_route l D K M m0 bN sN0 pN k0 k1 now x_wd x_beg x_std x_dea x_frm x_alv x_stm x_mov x_dwn x_ctd x_cutm x_pha x_usd x_gol x_esr x_epo x_offm x_ast x_opn x_ssr x_spo x_awa x_dat kpt x_hd by0 to0 rep had ost bst x_inr alv (g_dig k0 k1 (g_join (hd 3) p0) wd) (by first | assumption | omega) (by first | assumption | omega) sz) [0, 2] rfl (by decide) (as := [m0, x_alv]) rfl rfl (ws' := [cO m0 11 [.int (nI bN), .int (nI sN0), .int (nI pN), .long k0, .long k1, .int now, .ref x_wd, .ref x_beg, .ref x_std, .ref x_dea, .ref x_frm, .ref x_alv, .ref x_stm, .ref x_mov, .ref x_dwn, .ref x_ctd, .ref x_cutm, .ref x_pha, .ref x_usd, .ref x_gol, .ref x_esr, .ref x_epo, .ref x_offm, .ref x_ast, .ref x_opn, .ref x_ssr, .ref x_spo, .ref x_awa, .ref x_dat, .int kpt, .ref x_hd, .int by0, .int to0, .int rep, .int had, .int ost, .int bst, .ref x_inr], cJ K x_wd 4 (g_end k0 k1 (g_join (hd 3) p0) wd), cZ K x_alv 4 alv, cI K x_hd 5 hd, cZ K x_dwn 32 dwn]) rfl 0 11 rfl rfl rfl (cw_Mod_209 hF.2.2.2.2.1 rfl rfl ⟨by decide, by decide⟩) rfl rfl (Nat.le_of_ble_eq_true rfl) d_Mod_segment_55 ⟨Nat.zero_le _, Nat.zero_le _⟩ ?_
            refine zx_istore (pc := 58) hF (lv' := [(7, .int (g_route alv bN (g_dig k0 k1 (g_join (hd 3) p0) wd))), (5, .long (g_dig k0 k1 (g_join (hd 3) p0) wd)), (4, .int (hd 3)), (0, .ref m0), (1, .int p0), (2, .int sq), (3, .int fl)]) d_Mod_segment_58 (by decide) rfl ?_
            refine zx_iload (pc := 60) hF d_Mod_segment_60 0 rfl ?_
            refine zx_if_ge (pc := 62) hF d_Mod_segment_62 (tgt := 68) rfl (fun h62 => ?_) (fun h62 => ?_)
            · exact absurd hr0 (Int32.not_lt.mpr h62)
            · refine zx_bipush (pc := 65) hF d_Mod_segment_65 k_bm3 ?_
              exact zx_iret (pc := 67) hF hr hlk (by first | rfl | (simp only [if_neg h2, if_neg h8, if_neg h14, if_pos h19, if_neg h29, if_neg h62]; done) | (simp only [h2, h8, h14, h19, h29, h62, ↓reduceIte]; done) | simp [h2, h8, h14, h19, h29, h62]) (by first | rfl | (simp only [if_neg h2, if_neg h8, if_neg h14, if_pos h19, if_neg h29, if_neg h62]; done) | (simp only [h2, h8, h14, h19, h29, h62, ↓reduceIte]; done) | simp [h2, h8, h14, h19, h29, h62]) d_Mod_segment_67
          · exact absurd h29 hk
        · exact absurd hfl (by rintro (z | z | z | z); exact h2 z; exact h8 z; exact h14 z; exact h19 z)
