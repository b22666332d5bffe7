set_option maxRecDepth 20000 in
theorem M_Mod_held (l : Launch) (D : va_G) (K : Nat → ClassId) (M : List (ClassId × FieldType)) (m0 : Nat) (bN : Nat) (sN0 : Nat) (pN : Nat) (k0 : Int64) (k1 : Int64) (now : Int32) (x_wd : Nat) (x_beg : Nat) (x_std : Nat) (x_dea : Nat) (x_frm : Nat) (x_alv : Nat) (x_stm : Nat) (x_mov : Nat) (x_dwn : Nat) (x_ctd : Nat) (x_cutm : Nat) (x_pha : Nat) (x_usd : Nat) (x_gol : Nat) (x_esr : Nat) (x_epo : Nat) (x_offm : Nat) (x_ast : Nat) (x_opn : Nat) (x_ssr : Nat) (x_spo : Nat) (x_awa : Nat) (x_dat : Nat) (kpt : Int32) (x_hd : Nat) (by0 : Int32) (to0 : Int32) (rep : Int32) (had : Int32) (ost : Int32) (bst : Int32) (x_inr : Nat) (dwn : Nat → Int32) (ctd : Nat → Int32) (b : Nat) (q : Nat) (hB : bN ≤ 4) (hS : 0 < sN0 ∧ sN0 ≤ 8) (hb : b < bN) (hq : q < sN0) (sz : Nat) : zM l y_Mod_held (zT y_Mod_held b_Mod_held 4 (some .int)) (zR 1 21) 0 0 D K M [.ref m0, .int (nI b), .int (nI q)] [cO m0 11 [.int (nI bN), .int (nI sN0), .int (nI pN), .long k0, .long k1, .int now, .ref x_wd, .ref x_beg, .ref x_std, .ref x_dea, .ref x_frm, .ref x_alv, .ref x_stm, .ref x_mov, .ref x_dwn, .ref x_ctd, .ref x_cutm, .ref x_pha, .ref x_usd, .ref x_gol, .ref x_esr, .ref x_epo, .ref x_offm, .ref x_ast, .ref x_opn, .ref x_ssr, .ref x_spo, .ref x_awa, .ref x_dat, .int kpt, .ref x_hd, .int by0, .int to0, .int rep, .int had, .int ost, .int bst, .ref x_inr], cZ K x_dwn 32 dwn, cI K x_ctd 32 ctd] sz (zQi D K M (if dwn (8 * b + q) = 0 then ctd (8 * b + q) else 10 + ctd (8 * b + q)) [cO m0 11 [.int (nI bN), .int (nI sN0), .int (nI pN), .long k0, .long k1, .int now, .ref x_wd, .ref x_beg, .ref x_std, .ref x_dea, .ref x_frm, .ref x_alv, .ref x_stm, .ref x_mov, .ref x_dwn, .ref x_ctd, .ref x_cutm, .ref x_pha, .ref x_usd, .ref x_gol, .ref x_esr, .ref x_epo, .ref x_offm, .ref x_ast, .ref x_opn, .ref x_ssr, .ref x_spo, .ref x_awa, .ref x_dat, .int kpt, .ref x_hd, .int by0, .int to0, .int rep, .int had, .int ost, .int bst, .ref x_inr], cZ K x_dwn 32 dwn, cI K x_ctd 32 ctd]) := by
  refine zx_head (by decide) (Nat.le_of_ble_eq_true rfl) ?_
  intro _ _ _ _ _ _ _ _ _ hF hr hlk hnm
  refine zx_aload_n (pc := 0) hF d_Mod_held_0 rfl 0 rfl ?_
  refine zx_iload_n (pc := 1) hF d_Mod_held_1 rfl 1 rfl ?_
  refine zx_Vi (pc := 2) hF (As := [.int (nI b)]) (rest := []) (fun sz => M_Mod_isBalancer l D K M m0 bN sN0 pN k0 k1 now x_wd x_beg x_std x_dea x_frm x_alv x_stm x_mov x_dwn x_ctd x_cutm x_pha x_usd x_gol x_esr x_epo x_offm x_ast x_opn x_ssr x_spo x_awa x_dat kpt x_hd by0 to0 rep had ost bst x_inr (nI b)  sz) [0] rfl (by decide) (as := [m0]) rfl rfl (ws' := [cO m0 11 [.int (nI bN), .int (nI sN0), .int (nI pN), .long k0, .long k1, .int now, .ref x_wd, .ref x_beg, .ref x_std, .ref x_dea, .ref x_frm, .ref x_alv, .ref x_stm, .ref x_mov, .ref x_dwn, .ref x_ctd, .ref x_cutm, .ref x_pha, .ref x_usd, .ref x_gol, .ref x_esr, .ref x_epo, .ref x_offm, .ref x_ast, .ref x_opn, .ref x_ssr, .ref x_spo, .ref x_awa, .ref x_dat, .int kpt, .ref x_hd, .int by0, .int to0, .int rep, .int had, .int ost, .int bst, .ref x_inr], cZ K x_dwn 32 dwn, cI K x_ctd 32 ctd]) rfl 0 11 rfl rfl rfl (cw_Mod_186 hF.2.2.2.2.1 rfl rfl ⟨by decide, by decide⟩) rfl rfl (Nat.le_of_ble_eq_true rfl) d_Mod_held_2 ⟨Nat.zero_le _, Nat.zero_le _⟩ ?_
  refine zx_topi 1 (g_is_in hb (by omega)) ?_
  refine zx_if_eq (pc := 5) hF d_Mod_held_5 (tgt := 16) rfl (fun h5 => ?_) (fun h5 => ?_)
  · exact absurd h5 (by decide)
  · refine zx_aload_n (pc := 8) hF d_Mod_held_8 rfl 0 rfl ?_
    refine zx_iload_n (pc := 9) hF d_Mod_held_9 rfl 2 rfl ?_
    refine zx_Vi (pc := 10) hF (As := [.int (nI q)]) (rest := []) (fun sz => M_Mod_isServer l D K M m0 bN sN0 pN k0 k1 now x_wd x_beg x_std x_dea x_frm x_alv x_stm x_mov x_dwn x_ctd x_cutm x_pha x_usd x_gol x_esr x_epo x_offm x_ast x_opn x_ssr x_spo x_awa x_dat kpt x_hd by0 to0 rep had ost bst x_inr (nI q)  sz) [0] rfl (by decide) (as := [m0]) rfl rfl (ws' := [cO m0 11 [.int (nI bN), .int (nI sN0), .int (nI pN), .long k0, .long k1, .int now, .ref x_wd, .ref x_beg, .ref x_std, .ref x_dea, .ref x_frm, .ref x_alv, .ref x_stm, .ref x_mov, .ref x_dwn, .ref x_ctd, .ref x_cutm, .ref x_pha, .ref x_usd, .ref x_gol, .ref x_esr, .ref x_epo, .ref x_offm, .ref x_ast, .ref x_opn, .ref x_ssr, .ref x_spo, .ref x_awa, .ref x_dat, .int kpt, .ref x_hd, .int by0, .int to0, .int rep, .int had, .int ost, .int bst, .ref x_inr], cZ K x_dwn 32 dwn, cI K x_ctd 32 ctd]) rfl 0 11 rfl rfl rfl (cw_Mod_192 hF.2.2.2.2.1 rfl rfl ⟨by decide, by decide⟩) rfl rfl (Nat.le_of_ble_eq_true rfl) d_Mod_held_10 ⟨Nat.zero_le _, Nat.zero_le _⟩ ?_
    refine zx_topi 1 (g_is_in hq (by omega)) ?_
    refine zx_if_ne (pc := 13) hF d_Mod_held_13 (tgt := 18) rfl (fun h13 => ?_) (fun h13 => ?_)
    · refine zx_bipush (pc := 18) hF d_Mod_held_18 k_b8 ?_
      refine zx_iload_n (pc := 20) hF d_Mod_held_20 rfl 1 rfl ?_
      refine zx_imul (pc := 21) hF d_Mod_held_21 ?_
      refine zx_topi (nI (8 * b)) (pk_mul 8 b) ?_
      refine zx_iload_n (pc := 22) hF d_Mod_held_22 rfl 2 rfl ?_
      refine zx_iadd (pc := 23) hF d_Mod_held_23 ?_
      refine zx_topi (nI ((8 * b) + q)) (nI_add (8 * b) q) ?_
      refine zx_istore_n (pc := 24) hF (lv' := [(3, .int (nI ((8 * b) + q))), (0, .ref m0), (1, .int (nI b)), (2, .int (nI q))]) d_Mod_held_24 rfl (by decide) rfl ?_
      refine zx_aload_n (pc := 25) hF d_Mod_held_25 rfl 1 rfl ?_
      refine zg_Mod_36 (pc := 26) hF 0 rfl rfl d_Mod_held_26 ?_
      refine zx_iload_n (pc := 29) hF d_Mod_held_29 rfl 0 rfl ?_
      refine zx_zaldn (pc := 30) hF (i := (8 * b) + q) 1 rfl (by omega) (by omega) d_Mod_held_30 ?_
      refine zx_if_eq (pc := 31) hF d_Mod_held_31 (tgt := 46) rfl (fun h31 => ?_) (fun h31 => ?_)
      · refine zx_aload_n (pc := 46) hF d_Mod_held_46 rfl 1 rfl ?_
        refine zg_Mod_39 (pc := 47) hF 0 rfl rfl d_Mod_held_47 ?_
        refine zx_iload_n (pc := 50) hF d_Mod_held_50 rfl 0 rfl ?_
        refine zx_ialdn (pc := 51) hF (i := (8 * b) + q) 2 rfl (by omega) (by omega) d_Mod_held_51 ?_
        exact zx_iret (pc := 52) hF hr hlk (by first | rfl | (simp only [if_pos h31]; done) | (simp only [h31, ↓reduceIte]; done) | simp [h31]) (by first | rfl | (simp only [if_pos h31]; done) | (simp only [h31, ↓reduceIte]; done) | simp [h31]) d_Mod_held_52
      · refine zx_bipush (pc := 34) hF d_Mod_held_34 k_b10 ?_
        refine zx_aload_n (pc := 36) hF d_Mod_held_36 rfl 1 rfl ?_
        refine zg_Mod_39 (pc := 37) hF 0 rfl rfl d_Mod_held_37 ?_
        refine zx_iload_n (pc := 40) hF d_Mod_held_40 rfl 0 rfl ?_
        refine zx_ialdn (pc := 41) hF (i := (8 * b) + q) 2 rfl (by omega) (by omega) d_Mod_held_41 ?_
        refine zx_iadd (pc := 42) hF d_Mod_held_42 ?_
        refine zx_goto (pc := 43) hF d_Mod_held_43 (tgt := 52) rfl ?_
        exact zx_iret (pc := 52) hF hr hlk (by first | rfl | (simp only [if_neg h31]; done) | (simp only [h31, ↓reduceIte]; done) | simp [h31]) (by first | rfl | (simp only [if_neg h31]; done) | (simp only [h31, ↓reduceIte]; done) | simp [h31]) d_Mod_held_52
    · exact absurd h13 (by decide)
set_option maxRecDepth 20000 in
theorem M_Mod_held_b (l : Launch) (D : va_G) (K : Nat → ClassId) (M : List (ClassId × FieldType)) (m0 : Nat) (bN : Nat) (sN0 : Nat) (pN : Nat) (k0 : Int64) (k1 : Int64) (now : Int32) (x_wd : Nat) (x_beg : Nat) (x_std : Nat) (x_dea : Nat) (x_frm : Nat) (x_alv : Nat) (x_stm : Nat) (x_mov : Nat) (x_dwn : Nat) (x_ctd : Nat) (x_cutm : Nat) (x_pha : Nat) (x_usd : Nat) (x_gol : Nat) (x_esr : Nat) (x_epo : Nat) (x_offm : Nat) (x_ast : Nat) (x_opn : Nat) (x_ssr : Nat) (x_spo : Nat) (x_awa : Nat) (x_dat : Nat) (kpt : Int32) (x_hd : Nat) (by0 : Int32) (to0 : Int32) (rep : Int32) (had : Int32) (ost : Int32) (bst : Int32) (x_inr : Nat) (b : Int32) (q : Int32) (hb : g_is b bN = 0) (sz : Nat) : zM l y_Mod_held (zT y_Mod_held b_Mod_held 4 (some .int)) (zR 1 21) 0 0 D K M [.ref m0, .int b, .int q] [cO m0 11 [.int (nI bN), .int (nI sN0), .int (nI pN), .long k0, .long k1, .int now, .ref x_wd, .ref x_beg, .ref x_std, .ref x_dea, .ref x_frm, .ref x_alv, .ref x_stm, .ref x_mov, .ref x_dwn, .ref x_ctd, .ref x_cutm, .ref x_pha, .ref x_usd, .ref x_gol, .ref x_esr, .ref x_epo, .ref x_offm, .ref x_ast, .ref x_opn, .ref x_ssr, .ref x_spo, .ref x_awa, .ref x_dat, .int kpt, .ref x_hd, .int by0, .int to0, .int rep, .int had, .int ost, .int bst, .ref x_inr]] sz (zQi D K M (-1) [cO m0 11 [.int (nI bN), .int (nI sN0), .int (nI pN), .long k0, .long k1, .int now, .ref x_wd, .ref x_beg, .ref x_std, .ref x_dea, .ref x_frm, .ref x_alv, .ref x_stm, .ref x_mov, .ref x_dwn, .ref x_ctd, .ref x_cutm, .ref x_pha, .ref x_usd, .ref x_gol, .ref x_esr, .ref x_epo, .ref x_offm, .ref x_ast, .ref x_opn, .ref x_ssr, .ref x_spo, .ref x_awa, .ref x_dat, .int kpt, .ref x_hd, .int by0, .int to0, .int rep, .int had, .int ost, .int bst, .ref x_inr]]) := by
  refine zx_head (by decide) (Nat.le_of_ble_eq_true rfl) ?_
  intro _ _ _ _ _ _ _ _ _ hF hr hlk hnm
  refine zx_aload_n (pc := 0) hF d_Mod_held_0 rfl 0 rfl ?_
  refine zx_iload_n (pc := 1) hF d_Mod_held_1 rfl 1 rfl ?_
  refine zx_Vi (pc := 2) hF (As := [.int b]) (rest := []) (fun sz => M_Mod_isBalancer l D K M m0 bN sN0 pN k0 k1 now x_wd x_beg x_std x_dea x_frm x_alv x_stm x_mov x_dwn x_ctd x_cutm x_pha x_usd x_gol x_esr x_epo x_offm x_ast x_opn x_ssr x_spo x_awa x_dat kpt x_hd by0 to0 rep had ost bst x_inr b  sz) [0] rfl (by decide) (as := [m0]) rfl rfl (ws' := [cO m0 11 [.int (nI bN), .int (nI sN0), .int (nI pN), .long k0, .long k1, .int now, .ref x_wd, .ref x_beg, .ref x_std, .ref x_dea, .ref x_frm, .ref x_alv, .ref x_stm, .ref x_mov, .ref x_dwn, .ref x_ctd, .ref x_cutm, .ref x_pha, .ref x_usd, .ref x_gol, .ref x_esr, .ref x_epo, .ref x_offm, .ref x_ast, .ref x_opn, .ref x_ssr, .ref x_spo, .ref x_awa, .ref x_dat, .int kpt, .ref x_hd, .int by0, .int to0, .int rep, .int had, .int ost, .int bst, .ref x_inr]]) rfl 0 11 rfl rfl rfl (cw_Mod_186 hF.2.2.2.2.1 rfl rfl ⟨by decide, by decide⟩) rfl rfl (Nat.le_of_ble_eq_true rfl) d_Mod_held_2 ⟨Nat.zero_le _, Nat.zero_le _⟩ ?_
  refine zx_topi 0 (hb) ?_
  refine zx_if_eq (pc := 5) hF d_Mod_held_5 (tgt := 16) rfl (fun h5 => ?_) (fun h5 => ?_)
  · refine zx_iconst (pc := 16) hF d_Mod_held_16 k_im1 ?_
    exact zx_iret (pc := 17) hF hr hlk (by first | rfl | (simp only []; done) | (simp only [↓reduceIte]; done) | simp []) (by first | rfl | (simp only []; done) | (simp only [↓reduceIte]; done) | simp []) d_Mod_held_17
  · exact absurd h5 (by decide)
set_option maxRecDepth 20000 in
theorem M_Mod_held_q (l : Launch) (D : va_G) (K : Nat → ClassId) (M : List (ClassId × FieldType)) (m0 : Nat) (bN : Nat) (sN0 : Nat) (pN : Nat) (k0 : Int64) (k1 : Int64) (now : Int32) (x_wd : Nat) (x_beg : Nat) (x_std : Nat) (x_dea : Nat) (x_frm : Nat) (x_alv : Nat) (x_stm : Nat) (x_mov : Nat) (x_dwn : Nat) (x_ctd : Nat) (x_cutm : Nat) (x_pha : Nat) (x_usd : Nat) (x_gol : Nat) (x_esr : Nat) (x_epo : Nat) (x_offm : Nat) (x_ast : Nat) (x_opn : Nat) (x_ssr : Nat) (x_spo : Nat) (x_awa : Nat) (x_dat : Nat) (kpt : Int32) (x_hd : Nat) (by0 : Int32) (to0 : Int32) (rep : Int32) (had : Int32) (ost : Int32) (bst : Int32) (x_inr : Nat) (b : Nat) (q : Int32) (hB : bN ≤ 4) (hS : 0 < sN0 ∧ sN0 ≤ 8) (hb : b < bN) (hq : g_is q sN0 = 0) (sz : Nat) : zM l y_Mod_held (zT y_Mod_held b_Mod_held 4 (some .int)) (zR 1 21) 0 0 D K M [.ref m0, .int (nI b), .int q] [cO m0 11 [.int (nI bN), .int (nI sN0), .int (nI pN), .long k0, .long k1, .int now, .ref x_wd, .ref x_beg, .ref x_std, .ref x_dea, .ref x_frm, .ref x_alv, .ref x_stm, .ref x_mov, .ref x_dwn, .ref x_ctd, .ref x_cutm, .ref x_pha, .ref x_usd, .ref x_gol, .ref x_esr, .ref x_epo, .ref x_offm, .ref x_ast, .ref x_opn, .ref x_ssr, .ref x_spo, .ref x_awa, .ref x_dat, .int kpt, .ref x_hd, .int by0, .int to0, .int rep, .int had, .int ost, .int bst, .ref x_inr]] sz (zQi D K M (-1) [cO m0 11 [.int (nI bN), .int (nI sN0), .int (nI pN), .long k0, .long k1, .int now, .ref x_wd, .ref x_beg, .ref x_std, .ref x_dea, .ref x_frm, .ref x_alv, .ref x_stm, .ref x_mov, .ref x_dwn, .ref x_ctd, .ref x_cutm, .ref x_pha, .ref x_usd, .ref x_gol, .ref x_esr, .ref x_epo, .ref x_offm, .ref x_ast, .ref x_opn, .ref x_ssr, .ref x_spo, .ref x_awa, .ref x_dat, .int kpt, .ref x_hd, .int by0, .int to0, .int rep, .int had, .int ost, .int bst, .ref x_inr]]) := by
  refine zx_head (by decide) (Nat.le_of_ble_eq_true rfl) ?_
  intro _ _ _ _ _ _ _ _ _ hF hr hlk hnm
  refine zx_aload_n (pc := 0) hF d_Mod_held_0 rfl 0 rfl ?_
  refine zx_iload_n (pc := 1) hF d_Mod_held_1 rfl 1 rfl ?_
  refine zx_Vi (pc := 2) hF (As := [.int (nI b)]) (rest := []) (fun sz => M_Mod_isBalancer l D K M m0 bN sN0 pN k0 k1 now x_wd x_beg x_std x_dea x_frm x_alv x_stm x_mov x_dwn x_ctd x_cutm x_pha x_usd x_gol x_esr x_epo x_offm x_ast x_opn x_ssr x_spo x_awa x_dat kpt x_hd by0 to0 rep had ost bst x_inr (nI b)  sz) [0] rfl (by decide) (as := [m0]) rfl rfl (ws' := [cO m0 11 [.int (nI bN), .int (nI sN0), .int (nI pN), .long k0, .long k1, .int now, .ref x_wd, .ref x_beg, .ref x_std, .ref x_dea, .ref x_frm, .ref x_alv, .ref x_stm, .ref x_mov, .ref x_dwn, .ref x_ctd, .ref x_cutm, .ref x_pha, .ref x_usd, .ref x_gol, .ref x_esr, .ref x_epo, .ref x_offm, .ref x_ast, .ref x_opn, .ref x_ssr, .ref x_spo, .ref x_awa, .ref x_dat, .int kpt, .ref x_hd, .int by0, .int to0, .int rep, .int had, .int ost, .int bst, .ref x_inr]]) rfl 0 11 rfl rfl rfl (cw_Mod_186 hF.2.2.2.2.1 rfl rfl ⟨by decide, by decide⟩) rfl rfl (Nat.le_of_ble_eq_true rfl) d_Mod_held_2 ⟨Nat.zero_le _, Nat.zero_le _⟩ ?_
  refine zx_topi 1 (g_is_in hb (by omega)) ?_
  refine zx_if_eq (pc := 5) hF d_Mod_held_5 (tgt := 16) rfl (fun h5 => ?_) (fun h5 => ?_)
  · exact absurd h5 (by decide)
  · refine zx_aload_n (pc := 8) hF d_Mod_held_8 rfl 0 rfl ?_
    refine zx_iload_n (pc := 9) hF d_Mod_held_9 rfl 2 rfl ?_
    refine zx_Vi (pc := 10) hF (As := [.int q]) (rest := []) (fun sz => M_Mod_isServer l D K M m0 bN sN0 pN k0 k1 now x_wd x_beg x_std x_dea x_frm x_alv x_stm x_mov x_dwn x_ctd x_cutm x_pha x_usd x_gol x_esr x_epo x_offm x_ast x_opn x_ssr x_spo x_awa x_dat kpt x_hd by0 to0 rep had ost bst x_inr q  sz) [0] rfl (by decide) (as := [m0]) rfl rfl (ws' := [cO m0 11 [.int (nI bN), .int (nI sN0), .int (nI pN), .long k0, .long k1, .int now, .ref x_wd, .ref x_beg, .ref x_std, .ref x_dea, .ref x_frm, .ref x_alv, .ref x_stm, .ref x_mov, .ref x_dwn, .ref x_ctd, .ref x_cutm, .ref x_pha, .ref x_usd, .ref x_gol, .ref x_esr, .ref x_epo, .ref x_offm, .ref x_ast, .ref x_opn, .ref x_ssr, .ref x_spo, .ref x_awa, .ref x_dat, .int kpt, .ref x_hd, .int by0, .int to0, .int rep, .int had, .int ost, .int bst, .ref x_inr]]) rfl 0 11 rfl rfl rfl (cw_Mod_192 hF.2.2.2.2.1 rfl rfl ⟨by decide, by decide⟩) rfl rfl (Nat.le_of_ble_eq_true rfl) d_Mod_held_10 ⟨Nat.zero_le _, Nat.zero_le _⟩ ?_
    refine zx_topi 0 (hq) ?_
    refine zx_if_ne (pc := 13) hF d_Mod_held_13 (tgt := 18) rfl (fun h13 => ?_) (fun h13 => ?_)
    · exact absurd h13 (by decide)
    · refine zx_iconst (pc := 16) hF d_Mod_held_16 k_im1 ?_
      exact zx_iret (pc := 17) hF hr hlk (by first | rfl | (simp only []; done) | (simp only [↓reduceIte]; done) | simp []) (by first | rfl | (simp only []; done) | (simp only [↓reduceIte]; done) | simp []) d_Mod_held_17
set_option maxRecDepth 20000 in
theorem M_Mod_tick (l : Launch) (D : va_G) (K : Nat → ClassId) (M : List (ClassId × FieldType)) (m0 : Nat) (bN : Nat) (sN0 : Nat) (pN : Nat) (k0 : Int64) (k1 : Int64) (now : Int32) (x_wd : Nat) (x_beg : Nat) (x_std : Nat) (x_dea : Nat) (x_frm : Nat) (x_alv : Nat) (x_stm : Nat) (x_mov : Nat) (x_dwn : Nat) (x_ctd : Nat) (x_cutm : Nat) (x_pha : Nat) (x_usd : Nat) (x_gol : Nat) (x_esr : Nat) (x_epo : Nat) (x_offm : Nat) (x_ast : Nat) (x_opn : Nat) (x_ssr : Nat) (x_spo : Nat) (x_awa : Nat) (x_dat : Nat) (kpt : Int32) (x_hd : Nat) (by0 : Int32) (to0 : Int32) (rep : Int32) (had : Int32) (ost : Int32) (bst : Int32) (x_inr : Nat) (pha : Nat → Int32) (usd : Nat → Int32) (t : Int32) (ht : ¬ t < 0 ∧ t ≤ 1000) (sz : Nat) : zM l y_Mod_tick (zT y_Mod_tick b_Mod_tick 3 (some .boolean)) (zR 0 0) 0 0 D K M [.ref m0, .int t] [cO m0 11 [.int (nI bN), .int (nI sN0), .int (nI pN), .long k0, .long k1, .int now, .ref x_wd, .ref x_beg, .ref x_std, .ref x_dea, .ref x_frm, .ref x_alv, .ref x_stm, .ref x_mov, .ref x_dwn, .ref x_ctd, .ref x_cutm, .ref x_pha, .ref x_usd, .ref x_gol, .ref x_esr, .ref x_epo, .ref x_offm, .ref x_ast, .ref x_opn, .ref x_ssr, .ref x_spo, .ref x_awa, .ref x_dat, .int kpt, .ref x_hd, .int by0, .int to0, .int rep, .int had, .int ost, .int bst, .ref x_inr], cI K x_pha 32 pha, cI K x_usd 32 usd] sz (zQi D K M 1 [cO m0 11 [.int (nI bN), .int (nI sN0), .int (nI pN), .long k0, .long k1, .int (now + t), .ref x_wd, .ref x_beg, .ref x_std, .ref x_dea, .ref x_frm, .ref x_alv, .ref x_stm, .ref x_mov, .ref x_dwn, .ref x_ctd, .ref x_cutm, .ref x_pha, .ref x_usd, .ref x_gol, .ref x_esr, .ref x_epo, .ref x_offm, .ref x_ast, .ref x_opn, .ref x_ssr, .ref x_spo, .ref x_awa, .ref x_dat, .int kpt, .ref x_hd, .int by0, .int to0, .int rep, .int had, .int ost, .int bst, .ref x_inr], cI K x_pha 32 (g_tick usd (now + t) 32 0 pha), cI K x_usd 32 usd]) := by
  refine zx_head (by decide) (Nat.le_of_ble_eq_true rfl) ?_
  intro _ _ _ _ _ _ _ _ _ hF hr hlk hnm
  refine zx_iload_n (pc := 0) hF d_Mod_tick_0 rfl 1 rfl ?_
  refine zx_if_lt (pc := 1) hF d_Mod_tick_1 (tgt := 11) rfl (fun h1 => ?_) (fun h1 => ?_)
  · exact absurd ht (fun z => by first | exact z.1 h1 | exact h8 z.2)
  · refine zx_iload_n (pc := 4) hF d_Mod_tick_4 rfl 1 rfl ?_
    refine zx_sipush (pc := 5) hF d_Mod_tick_5 k_s1000 ?_
    refine zx_icmp_le (pc := 8) hF d_Mod_tick_8 (tgt := 13) rfl (fun h8 => ?_) (fun h8 => ?_)
    · refine zx_aload_n (pc := 13) hF d_Mod_tick_13 rfl 0 rfl ?_
      refine zx_aload_n (pc := 14) hF d_Mod_tick_14 rfl 0 rfl ?_
      refine zg_Mod_202 (pc := 15) hF 0 rfl rfl d_Mod_tick_15 ?_
      refine zx_iload_n (pc := 18) hF d_Mod_tick_18 rfl 1 rfl ?_
      refine zx_iadd (pc := 19) hF d_Mod_tick_19 ?_
      refine zp_Mod_202 (pc := 20) hF 0 rfl (Nat.le_of_ble_eq_true rfl) d_Mod_tick_20 (ws' := [cO m0 11 [.int (nI bN), .int (nI sN0), .int (nI pN), .long k0, .long k1, .int (now + t), .ref x_wd, .ref x_beg, .ref x_std, .ref x_dea, .ref x_frm, .ref x_alv, .ref x_stm, .ref x_mov, .ref x_dwn, .ref x_ctd, .ref x_cutm, .ref x_pha, .ref x_usd, .ref x_gol, .ref x_esr, .ref x_epo, .ref x_offm, .ref x_ast, .ref x_opn, .ref x_ssr, .ref x_spo, .ref x_awa, .ref x_dat, .int kpt, .ref x_hd, .int by0, .int to0, .int rep, .int had, .int ost, .int bst, .ref x_inr], cI K x_pha 32 pha, cI K x_usd 32 usd]) rfl ?_
      refine zx_iconst (pc := 23) hF d_Mod_tick_23 k_i0 ?_
      refine zx_istore_n (pc := 24) hF (lv' := [(2, .int 0), (0, .ref m0), (1, .int t)]) d_Mod_tick_24 rfl (by decide) rfl ?_
      refine zx_lv [1, 2, 0] (lv' := [(0, .ref m0), (1, .int t), (2, .int 0)]) rfl ?_
      refine zx_loop (pc := 25) (σ := Nat × (Nat → Int32)) (fun k zv => (zv.1 + k = 32) ∧ (g_tick usd (now + t) k zv.1 zv.2 = g_tick usd (now + t) 32 0 pha)) (fun zv => [cO m0 11 [.int (nI bN), .int (nI sN0), .int (nI pN), .long k0, .long k1, .int (now + t), .ref x_wd, .ref x_beg, .ref x_std, .ref x_dea, .ref x_frm, .ref x_alv, .ref x_stm, .ref x_mov, .ref x_dwn, .ref x_ctd, .ref x_cutm, .ref x_pha, .ref x_usd, .ref x_gol, .ref x_esr, .ref x_epo, .ref x_offm, .ref x_ast, .ref x_opn, .ref x_ssr, .ref x_spo, .ref x_awa, .ref x_dat, .int kpt, .ref x_hd, .int by0, .int to0, .int rep, .int had, .int ost, .int bst, .ref x_inr], cI K x_pha 32 zv.2, cI K x_usd 32 usd]) (fun zv => [(0, .ref m0), (1, .int t), (2, .int (nI zv.1))]) 32 (0, pha) ⟨rfl, rfl⟩ rfl rfl ?_
      intro k zv hI ih
      obtain ⟨j, f'⟩ := zv
      obtain ⟨hk, hX⟩ := hI
      replace hk : j + k = 32 := hk
      replace hX : g_tick usd (now + t) k j f' = g_tick usd (now + t) 32 0 pha := hX
      refine zx_eq (ws' := [cO m0 11 [.int (nI bN), .int (nI sN0), .int (nI pN), .long k0, .long k1, .int (now + t), .ref x_wd, .ref x_beg, .ref x_std, .ref x_dea, .ref x_frm, .ref x_alv, .ref x_stm, .ref x_mov, .ref x_dwn, .ref x_ctd, .ref x_cutm, .ref x_pha, .ref x_usd, .ref x_gol, .ref x_esr, .ref x_epo, .ref x_offm, .ref x_ast, .ref x_opn, .ref x_ssr, .ref x_spo, .ref x_awa, .ref x_dat, .int kpt, .ref x_hd, .int by0, .int to0, .int rep, .int had, .int ost, .int bst, .ref x_inr], cI K x_pha 32 f', cI K x_usd 32 usd]) (lv' := [(0, .ref m0), (1, .int t), (2, .int (nI j))]) rfl rfl rfl ?_
      refine zx_iload_n (pc := 25) hF d_Mod_tick_25 rfl 2 rfl ?_
      refine zx_bipush (pc := 26) hF d_Mod_tick_26 k_b32 ?_
      refine zx_icmp_ge (pc := 28) hF d_Mod_tick_28 (tgt := 64) rfl (fun h28 => ?_) (fun h28 => ?_)
      · replace h28 : 32 ≤ j := (nI_leI (a := 32) (b := j) (by omega) (by omega)).mp h28
        refine zx_iconst (pc := 64) hF d_Mod_tick_64 k_i1 ?_
        exact zx_zret (pc := 65) hF hr hlk rfl rfl (by obtain rfl : k = 0 := (by omega); rw [← hX]; rfl) d_Mod_tick_65
      · replace h28 : ¬ 32 ≤ j := fun z => h28 ((nI_leI (a := 32) (b := j) (by omega) (by omega)).mpr z)
        refine zx_aload_n (pc := 31) hF d_Mod_tick_31 rfl 0 rfl ?_
        refine zg_Mod_202 (pc := 32) hF 0 rfl rfl d_Mod_tick_32 ?_
        refine zx_aload_n (pc := 35) hF d_Mod_tick_35 rfl 0 rfl ?_
        refine zg_Mod_48 (pc := 36) hF 0 rfl rfl d_Mod_tick_36 ?_
        refine zx_iload_n (pc := 39) hF d_Mod_tick_39 rfl 2 rfl ?_
        refine zx_ialdn (pc := 40) hF (i := j) 2 rfl (by omega) (by omega) d_Mod_tick_40 ?_
        refine zx_isub (pc := 41) hF d_Mod_tick_41 ?_
        refine zx_aload_n (pc := 42) hF d_Mod_tick_42 rfl 0 rfl ?_
        refine zg_Mod_45 (pc := 43) hF 0 rfl rfl d_Mod_tick_43 ?_
        refine zx_iload_n (pc := 46) hF d_Mod_tick_46 rfl 2 rfl ?_
        refine zx_ialdn (pc := 47) hF (i := j) 1 rfl (by omega) (by omega) d_Mod_tick_47 ?_
        refine zx_icmp_le (pc := 48) hF d_Mod_tick_48 (tgt := 58) rfl (fun h48 => ?_) (fun h48 => ?_)
        · refine zx_iinc (pc := 58) hF (v := nI (j + 1)) (lv' := [(2, .int (nI (j + 1))), (0, .ref m0), (1, .int t)]) d_Mod_tick_58 2 rfl (zinc j) (by decide) rfl ?_
          refine zx_goto (pc := 61) hF d_Mod_tick_61 (tgt := 25) rfl ?_
          refine zx_lv [1, 2, 0] (lv' := [(0, .ref m0), (1, .int t), (2, .int (nI (j + 1)))]) rfl ?_
          exact ih (k - 1) (j + 1, f') (by omega) ⟨by first | omega | (dsimp only; omega) | dsimp only, by obtain ⟨k', rfl⟩ : ∃ k', k = k' + 1 := ⟨k - 1, by omega⟩; exact (if_pos h48).symm.trans hX⟩
        · refine zx_aload_n (pc := 51) hF d_Mod_tick_51 rfl 0 rfl ?_
          refine zg_Mod_45 (pc := 52) hF 0 rfl rfl d_Mod_tick_52 ?_
          refine zx_iload_n (pc := 55) hF d_Mod_tick_55 rfl 2 rfl ?_
          refine zx_iconst (pc := 56) hF d_Mod_tick_56 k_i0 ?_
          refine zx_iastn (pc := 57) hF (i := j) 1 rfl (by omega) (by omega) d_Mod_tick_57 (ws' := [cO m0 11 [.int (nI bN), .int (nI sN0), .int (nI pN), .long k0, .long k1, .int (now + t), .ref x_wd, .ref x_beg, .ref x_std, .ref x_dea, .ref x_frm, .ref x_alv, .ref x_stm, .ref x_mov, .ref x_dwn, .ref x_ctd, .ref x_cutm, .ref x_pha, .ref x_usd, .ref x_gol, .ref x_esr, .ref x_epo, .ref x_offm, .ref x_ast, .ref x_opn, .ref x_ssr, .ref x_spo, .ref x_awa, .ref x_dat, .int kpt, .ref x_hd, .int by0, .int to0, .int rep, .int had, .int ost, .int bst, .ref x_inr], cI K x_pha 32 (upd f' j 0), cI K x_usd 32 usd]) rfl ?_
          refine zx_iinc (pc := 58) hF (v := nI (j + 1)) (lv' := [(2, .int (nI (j + 1))), (0, .ref m0), (1, .int t)]) d_Mod_tick_58 2 rfl (zinc j) (by decide) rfl ?_
          refine zx_goto (pc := 61) hF d_Mod_tick_61 (tgt := 25) rfl ?_
          refine zx_lv [1, 2, 0] (lv' := [(0, .ref m0), (1, .int t), (2, .int (nI (j + 1)))]) rfl ?_
          exact ih (k - 1) (j + 1, upd f' j 0) (by omega) ⟨by first | omega | (dsimp only; omega) | dsimp only, by obtain ⟨k', rfl⟩ : ∃ k', k = k' + 1 := ⟨k - 1, by omega⟩; exact (if_neg h48).symm.trans hX⟩
    · exact absurd ht (fun z => by first | exact z.1 h1 | exact h8 z.2)
set_option maxRecDepth 20000 in
theorem M_Mod_tick_n (l : Launch) (D : va_G) (K : Nat → ClassId) (M : List (ClassId × FieldType)) (m0 : Nat) (bN : Nat) (sN0 : Nat) (pN : Nat) (k0 : Int64) (k1 : Int64) (now : Int32) (x_wd : Nat) (x_beg : Nat) (x_std : Nat) (x_dea : Nat) (x_frm : Nat) (x_alv : Nat) (x_stm : Nat) (x_mov : Nat) (x_dwn : Nat) (x_ctd : Nat) (x_cutm : Nat) (x_pha : Nat) (x_usd : Nat) (x_gol : Nat) (x_esr : Nat) (x_epo : Nat) (x_offm : Nat) (x_ast : Nat) (x_opn : Nat) (x_ssr : Nat) (x_spo : Nat) (x_awa : Nat) (x_dat : Nat) (kpt : Int32) (x_hd : Nat) (by0 : Int32) (to0 : Int32) (rep : Int32) (had : Int32) (ost : Int32) (bst : Int32) (x_inr : Nat) (t : Int32) (ht : t < 0 ∨ ¬ t ≤ 1000) (sz : Nat) : zM l y_Mod_tick (zT y_Mod_tick b_Mod_tick 3 (some .boolean)) (zR 0 0) 0 0 D K M [.ref m0, .int t] [cO m0 11 [.int (nI bN), .int (nI sN0), .int (nI pN), .long k0, .long k1, .int now, .ref x_wd, .ref x_beg, .ref x_std, .ref x_dea, .ref x_frm, .ref x_alv, .ref x_stm, .ref x_mov, .ref x_dwn, .ref x_ctd, .ref x_cutm, .ref x_pha, .ref x_usd, .ref x_gol, .ref x_esr, .ref x_epo, .ref x_offm, .ref x_ast, .ref x_opn, .ref x_ssr, .ref x_spo, .ref x_awa, .ref x_dat, .int kpt, .ref x_hd, .int by0, .int to0, .int rep, .int had, .int ost, .int bst, .ref x_inr]] sz (zQi D K M 0 [cO m0 11 [.int (nI bN), .int (nI sN0), .int (nI pN), .long k0, .long k1, .int now, .ref x_wd, .ref x_beg, .ref x_std, .ref x_dea, .ref x_frm, .ref x_alv, .ref x_stm, .ref x_mov, .ref x_dwn, .ref x_ctd, .ref x_cutm, .ref x_pha, .ref x_usd, .ref x_gol, .ref x_esr, .ref x_epo, .ref x_offm, .ref x_ast, .ref x_opn, .ref x_ssr, .ref x_spo, .ref x_awa, .ref x_dat, .int kpt, .ref x_hd, .int by0, .int to0, .int rep, .int had, .int ost, .int bst, .ref x_inr]]) := by
  refine zx_head (by decide) (Nat.le_of_ble_eq_true rfl) ?_
  intro _ _ _ _ _ _ _ _ _ hF hr hlk hnm
  refine zx_iload_n (pc := 0) hF d_Mod_tick_0 rfl 1 rfl ?_
  refine zx_if_lt (pc := 1) hF d_Mod_tick_1 (tgt := 11) rfl (fun h1 => ?_) (fun h1 => ?_)
  · refine zx_iconst (pc := 11) hF d_Mod_tick_11 k_i0 ?_
    exact zx_zret (pc := 12) hF hr hlk rfl (by first | rfl | (simp only [if_pos h1]; done) | (simp only [h1, ↓reduceIte]; done) | simp [h1]) (by first | rfl | (simp only [if_pos h1]; done) | (simp only [h1, ↓reduceIte]; done) | simp [h1]) d_Mod_tick_12
  · refine zx_iload_n (pc := 4) hF d_Mod_tick_4 rfl 1 rfl ?_
    refine zx_sipush (pc := 5) hF d_Mod_tick_5 k_s1000 ?_
    refine zx_icmp_le (pc := 8) hF d_Mod_tick_8 (tgt := 13) rfl (fun h8 => ?_) (fun h8 => ?_)
    · exact absurd ht (by rintro (z | z); exact h1 z; exact z h8)
    · refine zx_iconst (pc := 11) hF d_Mod_tick_11 k_i0 ?_
      exact zx_zret (pc := 12) hF hr hlk rfl (by first | rfl | (simp only [if_neg h1, if_neg h8]; done) | (simp only [h1, h8, ↓reduceIte]; done) | simp [h1, h8]) (by first | rfl | (simp only [if_neg h1, if_neg h8]; done) | (simp only [h1, h8, ↓reduceIte]; done) | simp [h1, h8]) d_Mod_tick_12
set_option maxRecDepth 20000 in
theorem M_Mod_slot (l : Launch) (D : va_G) (K : Nat → ClassId) (M : List (ClassId × FieldType)) (m0 : Nat) (bN : Nat) (sN0 : Nat) (pN : Nat) (k0 : Int64) (k1 : Int64) (now : Int32) (x_wd : Nat) (x_beg : Nat) (x_std : Nat) (x_dea : Nat) (x_frm : Nat) (x_alv : Nat) (x_stm : Nat) (x_mov : Nat) (x_dwn : Nat) (x_ctd : Nat) (x_cutm : Nat) (x_pha : Nat) (x_usd : Nat) (x_gol : Nat) (x_esr : Nat) (x_epo : Nat) (x_offm : Nat) (x_ast : Nat) (x_opn : Nat) (x_ssr : Nat) (x_spo : Nat) (x_awa : Nat) (x_dat : Nat) (kpt : Int32) (x_hd : Nat) (by0 : Int32) (to0 : Int32) (rep : Int32) (had : Int32) (ost : Int32) (bst : Int32) (x_inr : Nat) (pha : Nat → Int32) (esr : Nat → Int32) (epo : Nat → Int32) (b : Nat) (s0 : Int32) (p0 : Int32) (hB : bN ≤ 4) (hS : 0 < sN0 ∧ sN0 ≤ 8) (hb : b < bN) (sz : Nat) : zM l y_Mod_slot (zT y_Mod_slot b_Mod_slot 5 (some .int)) (zR 0 0) 0 0 D K M [.ref m0, .int (nI b), .int s0, .int p0] [cO m0 11 [.int (nI bN), .int (nI sN0), .int (nI pN), .long k0, .long k1, .int now, .ref x_wd, .ref x_beg, .ref x_std, .ref x_dea, .ref x_frm, .ref x_alv, .ref x_stm, .ref x_mov, .ref x_dwn, .ref x_ctd, .ref x_cutm, .ref x_pha, .ref x_usd, .ref x_gol, .ref x_esr, .ref x_epo, .ref x_offm, .ref x_ast, .ref x_opn, .ref x_ssr, .ref x_spo, .ref x_awa, .ref x_dat, .int kpt, .ref x_hd, .int by0, .int to0, .int rep, .int had, .int ost, .int bst, .ref x_inr], cI K x_pha 32 pha, cI K x_esr 32 esr, cI K x_epo 32 epo] sz (zQi D K M (g_slot pha esr epo b s0 p0) [cO m0 11 [.int (nI bN), .int (nI sN0), .int (nI pN), .long k0, .long k1, .int now, .ref x_wd, .ref x_beg, .ref x_std, .ref x_dea, .ref x_frm, .ref x_alv, .ref x_stm, .ref x_mov, .ref x_dwn, .ref x_ctd, .ref x_cutm, .ref x_pha, .ref x_usd, .ref x_gol, .ref x_esr, .ref x_epo, .ref x_offm, .ref x_ast, .ref x_opn, .ref x_ssr, .ref x_spo, .ref x_awa, .ref x_dat, .int kpt, .ref x_hd, .int by0, .int to0, .int rep, .int had, .int ost, .int bst, .ref x_inr], cI K x_pha 32 pha, cI K x_esr 32 esr, cI K x_epo 32 epo]) := by
  refine zx_head (by decide) (Nat.le_of_ble_eq_true rfl) ?_
  intro _ _ _ _ _ _ _ _ _ hF hr hlk hnm
  refine zx_bipush (pc := 0) hF d_Mod_slot_0 k_b8 ?_
  refine zx_iload_n (pc := 2) hF d_Mod_slot_2 rfl 1 rfl ?_
  refine zx_imul (pc := 3) hF d_Mod_slot_3 ?_
  refine zx_topi (nI (8 * b)) (pk_mul 8 b) ?_
  refine zx_istore (pc := 4) hF (lv' := [(4, .int (nI (8 * b))), (0, .ref m0), (1, .int (nI b)), (2, .int s0), (3, .int p0)]) d_Mod_slot_4 (by decide) rfl ?_
  refine zx_lv [1, 2, 3, 4, 0] (lv' := [(0, .ref m0), (1, .int (nI b)), (2, .int s0), (3, .int p0), (4, .int (nI (8 * b)))]) rfl ?_
  refine zx_loop (pc := 6) (σ := Nat) (fun k zv => (zv + k = 8 * b + 8) ∧ (f_first (g_same pha esr epo s0 p0) k zv = g_slot pha esr epo b s0 p0) ∧ (8 * b ≤ zv)) (fun zv => [cO m0 11 [.int (nI bN), .int (nI sN0), .int (nI pN), .long k0, .long k1, .int now, .ref x_wd, .ref x_beg, .ref x_std, .ref x_dea, .ref x_frm, .ref x_alv, .ref x_stm, .ref x_mov, .ref x_dwn, .ref x_ctd, .ref x_cutm, .ref x_pha, .ref x_usd, .ref x_gol, .ref x_esr, .ref x_epo, .ref x_offm, .ref x_ast, .ref x_opn, .ref x_ssr, .ref x_spo, .ref x_awa, .ref x_dat, .int kpt, .ref x_hd, .int by0, .int to0, .int rep, .int had, .int ost, .int bst, .ref x_inr], cI K x_pha 32 pha, cI K x_esr 32 esr, cI K x_epo 32 epo]) (fun zv => [(0, .ref m0), (1, .int (nI b)), (2, .int s0), (3, .int p0), (4, .int (nI zv))]) 8 (8 * b) ⟨by first | omega | (dsimp only; omega) | dsimp only, rfl, by first | omega | (dsimp only; omega) | dsimp only⟩ rfl rfl ?_
  intro k e hI ih
  obtain ⟨hk, hX, hb0⟩ := hI
  replace hk : e + k = 8 * b + 8 := hk
  replace hX : f_first (g_same pha esr epo s0 p0) k e = g_slot pha esr epo b s0 p0 := hX
  replace hb0 : 8 * b ≤ e := hb0
  refine zx_eq (ws' := [cO m0 11 [.int (nI bN), .int (nI sN0), .int (nI pN), .long k0, .long k1, .int now, .ref x_wd, .ref x_beg, .ref x_std, .ref x_dea, .ref x_frm, .ref x_alv, .ref x_stm, .ref x_mov, .ref x_dwn, .ref x_ctd, .ref x_cutm, .ref x_pha, .ref x_usd, .ref x_gol, .ref x_esr, .ref x_epo, .ref x_offm, .ref x_ast, .ref x_opn, .ref x_ssr, .ref x_spo, .ref x_awa, .ref x_dat, .int kpt, .ref x_hd, .int by0, .int to0, .int rep, .int had, .int ost, .int bst, .ref x_inr], cI K x_pha 32 pha, cI K x_esr 32 esr, cI K x_epo 32 epo]) (lv' := [(0, .ref m0), (1, .int (nI b)), (2, .int s0), (3, .int p0), (4, .int (nI e))]) rfl rfl rfl ?_
  refine zx_iload (pc := 6) hF d_Mod_slot_6 4 rfl ?_
  refine zx_bipush (pc := 8) hF d_Mod_slot_8 k_b8 ?_
  refine zx_iload_n (pc := 10) hF d_Mod_slot_10 rfl 1 rfl ?_
  refine zx_imul (pc := 11) hF d_Mod_slot_11 ?_
  refine zx_topi (nI (8 * b)) (pk_mul 8 b) ?_
  refine zx_bipush (pc := 12) hF d_Mod_slot_12 k_b8 ?_
  refine zx_iadd (pc := 14) hF d_Mod_slot_14 ?_
  refine zx_topi (nI ((8 * b) + 8)) (nI_add (8 * b) 8) ?_
  refine zx_icmp_ge (pc := 15) hF d_Mod_slot_15 (tgt := 59) rfl (fun h15 => ?_) (fun h15 => ?_)
  · replace h15 : ((8 * b) + 8) ≤ e := (nI_leI (a := (8 * b) + 8) (b := e) (by omega) (by omega)).mp h15
    refine zx_iconst (pc := 59) hF d_Mod_slot_59 k_im1 ?_
    exact zx_iret (pc := 60) hF hr hlk (by obtain rfl : k = 0 := (by omega); exact hX) rfl d_Mod_slot_60
  · replace h15 : ¬ ((8 * b) + 8) ≤ e := fun z => h15 ((nI_leI (a := (8 * b) + 8) (b := e) (by omega) (by omega)).mpr z)
    refine zx_aload_n (pc := 18) hF d_Mod_slot_18 rfl 0 rfl ?_
    refine zg_Mod_45 (pc := 19) hF 0 rfl rfl d_Mod_slot_19 ?_
    refine zx_iload (pc := 22) hF d_Mod_slot_22 4 rfl ?_
    refine zx_ialdn (pc := 24) hF (i := e) 1 rfl (by omega) (by omega) d_Mod_slot_24 ?_
    refine zx_if_le (pc := 25) hF d_Mod_slot_25 (tgt := 53) rfl (fun h25 => ?_) (fun h25 => ?_)
    · refine zx_iinc (pc := 53) hF (v := nI (e + 1)) (lv' := [(4, .int (nI (e + 1))), (0, .ref m0), (1, .int (nI b)), (2, .int s0), (3, .int p0)]) d_Mod_slot_53 4 rfl (zinc e) (by decide) rfl ?_
      refine zx_goto (pc := 56) hF d_Mod_slot_56 (tgt := 6) rfl ?_
      refine zx_lv [1, 2, 3, 4, 0] (lv' := [(0, .ref m0), (1, .int (nI b)), (2, .int s0), (3, .int p0), (4, .int (nI (e + 1)))]) rfl ?_
      exact ih (k - 1) (e + 1) (by omega) ⟨by first | omega | (dsimp only; omega) | dsimp only, by obtain ⟨k', rfl⟩ : ∃ k', k = k' + 1 := ⟨k - 1, by omega⟩; simpa [f_first, g_same, h15, h25] using hX, by first | omega | (dsimp only; omega) | dsimp only⟩
    · refine zx_aload_n (pc := 28) hF d_Mod_slot_28 rfl 0 rfl ?_
      refine zg_Mod_54 (pc := 29) hF 0 rfl rfl d_Mod_slot_29 ?_
      refine zx_iload (pc := 32) hF d_Mod_slot_32 4 rfl ?_
      refine zx_ialdn (pc := 34) hF (i := e) 2 rfl (by omega) (by omega) d_Mod_slot_34 ?_
      refine zx_iload_n (pc := 35) hF d_Mod_slot_35 rfl 2 rfl ?_
      refine zx_icmp_ne (pc := 36) hF d_Mod_slot_36 (tgt := 53) rfl (fun h36 => ?_) (fun h36 => ?_)
      · refine zx_iinc (pc := 53) hF (v := nI (e + 1)) (lv' := [(4, .int (nI (e + 1))), (0, .ref m0), (1, .int (nI b)), (2, .int s0), (3, .int p0)]) d_Mod_slot_53 4 rfl (zinc e) (by decide) rfl ?_
        refine zx_goto (pc := 56) hF d_Mod_slot_56 (tgt := 6) rfl ?_
        refine zx_lv [1, 2, 3, 4, 0] (lv' := [(0, .ref m0), (1, .int (nI b)), (2, .int s0), (3, .int p0), (4, .int (nI (e + 1)))]) rfl ?_
        exact ih (k - 1) (e + 1) (by omega) ⟨by first | omega | (dsimp only; omega) | dsimp only, by obtain ⟨k', rfl⟩ : ∃ k', k = k' + 1 := ⟨k - 1, by omega⟩; simpa [f_first, g_same, h15, h25, h36] using hX, by first | omega | (dsimp only; omega) | dsimp only⟩
      · refine zx_aload_n (pc := 39) hF d_Mod_slot_39 rfl 0 rfl ?_
        refine zg_Mod_57 (pc := 40) hF 0 rfl rfl d_Mod_slot_40 ?_
        refine zx_iload (pc := 43) hF d_Mod_slot_43 4 rfl ?_
        refine zx_ialdn (pc := 45) hF (i := e) 3 rfl (by omega) (by omega) d_Mod_slot_45 ?_
        refine zx_iload_n (pc := 46) hF d_Mod_slot_46 rfl 3 rfl ?_
        refine zx_icmp_ne (pc := 47) hF d_Mod_slot_47 (tgt := 53) rfl (fun h47 => ?_) (fun h47 => ?_)
        · refine zx_iinc (pc := 53) hF (v := nI (e + 1)) (lv' := [(4, .int (nI (e + 1))), (0, .ref m0), (1, .int (nI b)), (2, .int s0), (3, .int p0)]) d_Mod_slot_53 4 rfl (zinc e) (by decide) rfl ?_
          refine zx_goto (pc := 56) hF d_Mod_slot_56 (tgt := 6) rfl ?_
          refine zx_lv [1, 2, 3, 4, 0] (lv' := [(0, .ref m0), (1, .int (nI b)), (2, .int s0), (3, .int p0), (4, .int (nI (e + 1)))]) rfl ?_
          exact ih (k - 1) (e + 1) (by omega) ⟨by first | omega | (dsimp only; omega) | dsimp only, by obtain ⟨k', rfl⟩ : ∃ k', k = k' + 1 := ⟨k - 1, by omega⟩; simpa [f_first, g_same, h15, h25, h36, h47] using hX, by first | omega | (dsimp only; omega) | dsimp only⟩
        · refine zx_iload (pc := 50) hF d_Mod_slot_50 4 rfl ?_
          exact zx_iret (pc := 52) hF hr hlk (by obtain ⟨k', rfl⟩ : ∃ k', k = k' + 1 := ⟨k - 1, by omega⟩; simpa [f_first, g_same, h15, h25, h36, h47] using hX) rfl d_Mod_slot_52
set_option maxRecDepth 20000 in
theorem M_Mod_freeSlot (l : Launch) (D : va_G) (K : Nat → ClassId) (M : List (ClassId × FieldType)) (m0 : Nat) (bN : Nat) (sN0 : Nat) (pN : Nat) (k0 : Int64) (k1 : Int64) (now : Int32) (x_wd : Nat) (x_beg : Nat) (x_std : Nat) (x_dea : Nat) (x_frm : Nat) (x_alv : Nat) (x_stm : Nat) (x_mov : Nat) (x_dwn : Nat) (x_ctd : Nat) (x_cutm : Nat) (x_pha : Nat) (x_usd : Nat) (x_gol : Nat) (x_esr : Nat) (x_epo : Nat) (x_offm : Nat) (x_ast : Nat) (x_opn : Nat) (x_ssr : Nat) (x_spo : Nat) (x_awa : Nat) (x_dat : Nat) (kpt : Int32) (x_hd : Nat) (by0 : Int32) (to0 : Int32) (rep : Int32) (had : Int32) (ost : Int32) (bst : Int32) (x_inr : Nat) (pha : Nat → Int32) (b : Nat) (hB : bN ≤ 4) (hS : 0 < sN0 ∧ sN0 ≤ 8) (hb : b < bN) (sz : Nat) : zM l y_Mod_freeSlot (zT y_Mod_freeSlot b_Mod_freeSlot 3 (some .int)) (zR 0 0) 0 0 D K M [.ref m0, .int (nI b)] [cO m0 11 [.int (nI bN), .int (nI sN0), .int (nI pN), .long k0, .long k1, .int now, .ref x_wd, .ref x_beg, .ref x_std, .ref x_dea, .ref x_frm, .ref x_alv, .ref x_stm, .ref x_mov, .ref x_dwn, .ref x_ctd, .ref x_cutm, .ref x_pha, .ref x_usd, .ref x_gol, .ref x_esr, .ref x_epo, .ref x_offm, .ref x_ast, .ref x_opn, .ref x_ssr, .ref x_spo, .ref x_awa, .ref x_dat, .int kpt, .ref x_hd, .int by0, .int to0, .int rep, .int had, .int ost, .int bst, .ref x_inr], cI K x_pha 32 pha] sz (zQi D K M (g_free pha b) [cO m0 11 [.int (nI bN), .int (nI sN0), .int (nI pN), .long k0, .long k1, .int now, .ref x_wd, .ref x_beg, .ref x_std, .ref x_dea, .ref x_frm, .ref x_alv, .ref x_stm, .ref x_mov, .ref x_dwn, .ref x_ctd, .ref x_cutm, .ref x_pha, .ref x_usd, .ref x_gol, .ref x_esr, .ref x_epo, .ref x_offm, .ref x_ast, .ref x_opn, .ref x_ssr, .ref x_spo, .ref x_awa, .ref x_dat, .int kpt, .ref x_hd, .int by0, .int to0, .int rep, .int had, .int ost, .int bst, .ref x_inr], cI K x_pha 32 pha]) := by
  refine zx_head (by decide) (Nat.le_of_ble_eq_true rfl) ?_
  intro _ _ _ _ _ _ _ _ _ hF hr hlk hnm
  refine zx_bipush (pc := 0) hF d_Mod_freeSlot_0 k_b8 ?_
  refine zx_iload_n (pc := 2) hF d_Mod_freeSlot_2 rfl 1 rfl ?_
  refine zx_imul (pc := 3) hF d_Mod_freeSlot_3 ?_
  refine zx_topi (nI (8 * b)) (pk_mul 8 b) ?_
  refine zx_istore_n (pc := 4) hF (lv' := [(2, .int (nI (8 * b))), (0, .ref m0), (1, .int (nI b))]) d_Mod_freeSlot_4 rfl (by decide) rfl ?_
  refine zx_lv [1, 2, 0] (lv' := [(0, .ref m0), (1, .int (nI b)), (2, .int (nI (8 * b)))]) rfl ?_
  refine zx_loop (pc := 5) (σ := Nat) (fun k zv => (zv + k = 8 * b + 8) ∧ (f_first (fun zv => pha zv == 0) k zv = g_free pha b) ∧ (8 * b ≤ zv)) (fun zv => [cO m0 11 [.int (nI bN), .int (nI sN0), .int (nI pN), .long k0, .long k1, .int now, .ref x_wd, .ref x_beg, .ref x_std, .ref x_dea, .ref x_frm, .ref x_alv, .ref x_stm, .ref x_mov, .ref x_dwn, .ref x_ctd, .ref x_cutm, .ref x_pha, .ref x_usd, .ref x_gol, .ref x_esr, .ref x_epo, .ref x_offm, .ref x_ast, .ref x_opn, .ref x_ssr, .ref x_spo, .ref x_awa, .ref x_dat, .int kpt, .ref x_hd, .int by0, .int to0, .int rep, .int had, .int ost, .int bst, .ref x_inr], cI K x_pha 32 pha]) (fun zv => [(0, .ref m0), (1, .int (nI b)), (2, .int (nI zv))]) 8 (8 * b) ⟨by first | omega | (dsimp only; omega) | dsimp only, rfl, by first | omega | (dsimp only; omega) | dsimp only⟩ rfl rfl ?_
  intro k e hI ih
  obtain ⟨hk, hX, hb0⟩ := hI
  replace hk : e + k = 8 * b + 8 := hk
  replace hX : f_first (fun e => pha e == 0) k e = g_free pha b := hX
  replace hb0 : 8 * b ≤ e := hb0
  refine zx_eq (ws' := [cO m0 11 [.int (nI bN), .int (nI sN0), .int (nI pN), .long k0, .long k1, .int now, .ref x_wd, .ref x_beg, .ref x_std, .ref x_dea, .ref x_frm, .ref x_alv, .ref x_stm, .ref x_mov, .ref x_dwn, .ref x_ctd, .ref x_cutm, .ref x_pha, .ref x_usd, .ref x_gol, .ref x_esr, .ref x_epo, .ref x_offm, .ref x_ast, .ref x_opn, .ref x_ssr, .ref x_spo, .ref x_awa, .ref x_dat, .int kpt, .ref x_hd, .int by0, .int to0, .int rep, .int had, .int ost, .int bst, .ref x_inr], cI K x_pha 32 pha]) (lv' := [(0, .ref m0), (1, .int (nI b)), (2, .int (nI e))]) rfl rfl rfl ?_
  refine zx_iload_n (pc := 5) hF d_Mod_freeSlot_5 rfl 2 rfl ?_
  refine zx_bipush (pc := 6) hF d_Mod_freeSlot_6 k_b8 ?_
  refine zx_iload_n (pc := 8) hF d_Mod_freeSlot_8 rfl 1 rfl ?_
  refine zx_imul (pc := 9) hF d_Mod_freeSlot_9 ?_
  refine zx_topi (nI (8 * b)) (pk_mul 8 b) ?_
  refine zx_bipush (pc := 10) hF d_Mod_freeSlot_10 k_b8 ?_
  refine zx_iadd (pc := 12) hF d_Mod_freeSlot_12 ?_
  refine zx_topi (nI ((8 * b) + 8)) (nI_add (8 * b) 8) ?_
  refine zx_icmp_ge (pc := 13) hF d_Mod_freeSlot_13 (tgt := 33) rfl (fun h13 => ?_) (fun h13 => ?_)
  · replace h13 : ((8 * b) + 8) ≤ e := (nI_leI (a := (8 * b) + 8) (b := e) (by omega) (by omega)).mp h13
    refine zx_iconst (pc := 33) hF d_Mod_freeSlot_33 k_im1 ?_
    exact zx_iret (pc := 34) hF hr hlk (by obtain rfl : k = 0 := (by omega); exact hX) rfl d_Mod_freeSlot_34
  · replace h13 : ¬ ((8 * b) + 8) ≤ e := fun z => h13 ((nI_leI (a := (8 * b) + 8) (b := e) (by omega) (by omega)).mpr z)
    refine zx_aload_n (pc := 16) hF d_Mod_freeSlot_16 rfl 0 rfl ?_
    refine zg_Mod_45 (pc := 17) hF 0 rfl rfl d_Mod_freeSlot_17 ?_
    refine zx_iload_n (pc := 20) hF d_Mod_freeSlot_20 rfl 2 rfl ?_
    refine zx_ialdn (pc := 21) hF (i := e) 1 rfl (by omega) (by omega) d_Mod_freeSlot_21 ?_
    refine zx_if_ne (pc := 22) hF d_Mod_freeSlot_22 (tgt := 27) rfl (fun h22 => ?_) (fun h22 => ?_)
    · refine zx_iinc (pc := 27) hF (v := nI (e + 1)) (lv' := [(2, .int (nI (e + 1))), (0, .ref m0), (1, .int (nI b))]) d_Mod_freeSlot_27 2 rfl (zinc e) (by decide) rfl ?_
      refine zx_goto (pc := 30) hF d_Mod_freeSlot_30 (tgt := 5) rfl ?_
      refine zx_lv [1, 2, 0] (lv' := [(0, .ref m0), (1, .int (nI b)), (2, .int (nI (e + 1)))]) rfl ?_
      exact ih (k - 1) (e + 1) (by omega) ⟨by first | omega | (dsimp only; omega) | dsimp only, by obtain ⟨k', rfl⟩ : ∃ k', k = k' + 1 := ⟨k - 1, by omega⟩; simpa [f_first, h13, h22] using hX, by first | omega | (dsimp only; omega) | dsimp only⟩
    · refine zx_iload_n (pc := 25) hF d_Mod_freeSlot_25 rfl 2 rfl ?_
      exact zx_iret (pc := 26) hF hr hlk (by obtain ⟨k', rfl⟩ : ∃ k', k = k' + 1 := ⟨k - 1, by omega⟩; simpa [f_first, h13, h22] using hX) rfl d_Mod_freeSlot_26
