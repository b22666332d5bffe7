set_option maxRecDepth 20000 in
theorem M_Mod_probe (l : Launch) (D : va_G) (K : Nat → ClassId) (M : List (ClassId × FieldType)) (m0 : Nat) (bN : Nat) (sN0 : Nat) (pN : Nat) (k0 : Int64) (k1 : Int64) (now : Int32) (x_wd : Nat) (x_beg : Nat) (x_std : Nat) (x_dea : Nat) (x_frm : Nat) (x_alv : Nat) (x_stm : Nat) (x_mov : Nat) (x_dwn : Nat) (x_ctd : Nat) (x_cutm : Nat) (x_pha : Nat) (x_usd : Nat) (x_gol : Nat) (x_esr : Nat) (x_epo : Nat) (x_offm : Nat) (x_ast : Nat) (x_opn : Nat) (x_ssr : Nat) (x_spo : Nat) (x_awa : Nat) (x_dat : Nat) (kpt : Int32) (x_hd : Nat) (by0 : Int32) (to0 : Int32) (rep : Int32) (had : Int32) (ost : Int32) (bst : Int32) (x_inr : Nat) (alv : Nat → Int32) (dwn : Nat → Int32) (beg : Nat → Int32) (std : Nat → Int32) (dea : Nat → Int32) (frm : Nat → Int32) (mov : Nat → Int32) (offm : Nat → Int32) (cutm : Nat → Int32) (ctd : Nat → Int32) (pha : Nat → Int32) (gol : Nat → Int32) (fN : Nat → Nat) (sN : Nat → Nat) (b : Nat) (hB : bN ≤ 4) (hS : 0 < sN0 ∧ sN0 ≤ 8) (hb : b < bN) (hP : 0 < pN ∧ pN ≤ 101) (hL : f_LN beg std fN sN pN sN0) (hg : ∀ e, e < 32 → vp_in (gol e) sN0) (hd : ¬ alv b = 0) (hc : ¬ (g_asks offm cutm b sN0 0 (ctd, dwn, 0)).2.2 = 0) (sz : Nat) : zM l y_Mod_probe (zT y_Mod_probe b_Mod_probe 5 (some .int)) (zR 2 48) 0 0 D K M [.ref m0, .int (nI b)] [cO m0 11 [.int (nI bN), .int (nI sN0), .int (nI pN), .long k0, .long k1, .int now, .ref x_wd, .ref x_beg, .ref x_std, .ref x_dea, .ref x_frm, .ref x_alv, .ref x_stm, .ref x_mov, .ref x_dwn, .ref x_ctd, .ref x_cutm, .ref x_pha, .ref x_usd, .ref x_gol, .ref x_esr, .ref x_epo, .ref x_offm, .ref x_ast, .ref x_opn, .ref x_ssr, .ref x_spo, .ref x_awa, .ref x_dat, .int kpt, .ref x_hd, .int by0, .int to0, .int rep, .int had, .int ost, .int bst, .ref x_inr], cZ K x_alv 4 alv, cZ K x_dwn 32 dwn, cI K x_beg 8 beg, cI K x_std 8 std, cI K x_dea 101 dea, cI K x_frm 101 frm, cI K x_mov 4 mov, cZ K x_offm 8 offm, cZ K x_cutm 32 cutm, cI K x_ctd 32 ctd, cI K x_pha 32 pha, cI K x_gol 32 gol] sz (zQi D K M (nI (g_asks offm cutm b sN0 0 (ctd, dwn, 0)).2.2) [cO m0 11 [.int (nI bN), .int (nI sN0), .int (nI pN), .long k0, .long k1, .int now, .ref x_wd, .ref x_beg, .ref x_std, .ref x_dea, .ref x_frm, .ref x_alv, .ref x_stm, .ref x_mov, .ref x_dwn, .ref x_ctd, .ref x_cutm, .ref x_pha, .ref x_usd, .ref x_gol, .ref x_esr, .ref x_epo, .ref x_offm, .ref x_ast, .ref x_opn, .ref x_ssr, .ref x_spo, .ref x_awa, .ref x_dat, .int kpt, .ref x_hd, .int by0, .int to0, .int rep, .int had, .int ost, .int bst, .ref x_inr], cZ K x_alv 4 alv, cZ K x_dwn 32 (g_asks offm cutm b sN0 0 (ctd, dwn, 0)).2.1, cI K x_beg 8 beg, cI K x_std 8 std, cI K x_dea 101 (g_deal fN sN pN sN0 (g_sh (g_asks offm cutm b sN0 0 (ctd, dwn, 0)).2.1 b) (g_deal fN sN pN sN0 (g_sh dwn b) dea)), cI K x_frm 101 (g_copy 101 0 (g_deal fN sN pN sN0 (g_sh dwn b) dea) frm), cI K x_mov 4 (upd mov b (nI (f_count (fun p => !((g_deal fN sN pN sN0 (g_sh (g_asks offm cutm b sN0 0 (ctd, dwn, 0)).2.1 b) (g_deal fN sN pN sN0 (g_sh dwn b) dea)) p == (g_copy 101 0 (g_deal fN sN pN sN0 (g_sh dwn b) dea) frm) p)) pN 0 0))), cZ K x_offm 8 offm, cZ K x_cutm 32 cutm, cI K x_ctd 32 (g_asks offm cutm b sN0 0 (ctd, dwn, 0)).1, cI K x_pha 32 (g_purge (g_asks offm cutm b sN0 0 (ctd, dwn, 0)).2.1 gol b 8 (8 * b) pha), cI K x_gol 32 gol]) := by
  refine zx_head (by decide) (Nat.le_of_ble_eq_true rfl) ?_
  intro _ _ _ _ _ _ _ _ _ hF hr hlk hnm
  refine zx_aload_n (pc := 0) hF d_Mod_probe_0 rfl 0 rfl ?_
  refine zx_iload_n (pc := 1) hF d_Mod_probe_1 rfl 1 rfl ?_
  refine zx_Vi (pc := 2) hF (As := [.int (nI b)]) (rest := []) (fun sz => M_Mod_isBalancer l D K M m0 bN sN0 pN k0 k1 now x_wd x_beg x_std x_dea x_frm x_alv x_stm x_mov x_dwn x_ctd x_cutm x_pha x_usd x_gol x_esr x_epo x_offm x_ast x_opn x_ssr x_spo x_awa x_dat kpt x_hd by0 to0 rep had ost bst x_inr (nI b)  sz) [0] rfl (by decide) (as := [m0]) rfl rfl (ws' := [cO m0 11 [.int (nI bN), .int (nI sN0), .int (nI pN), .long k0, .long k1, .int now, .ref x_wd, .ref x_beg, .ref x_std, .ref x_dea, .ref x_frm, .ref x_alv, .ref x_stm, .ref x_mov, .ref x_dwn, .ref x_ctd, .ref x_cutm, .ref x_pha, .ref x_usd, .ref x_gol, .ref x_esr, .ref x_epo, .ref x_offm, .ref x_ast, .ref x_opn, .ref x_ssr, .ref x_spo, .ref x_awa, .ref x_dat, .int kpt, .ref x_hd, .int by0, .int to0, .int rep, .int had, .int ost, .int bst, .ref x_inr], cZ K x_alv 4 alv, cZ K x_dwn 32 dwn, cI K x_beg 8 beg, cI K x_std 8 std, cI K x_dea 101 dea, cI K x_frm 101 frm, cI K x_mov 4 mov, cZ K x_offm 8 offm, cZ K x_cutm 32 cutm, cI K x_ctd 32 ctd, cI K x_pha 32 pha, cI K x_gol 32 gol]) rfl 0 11 rfl rfl rfl (cw_Mod_186 hF.2.2.2.2.1 rfl rfl ⟨by decide, by decide⟩) rfl rfl (Nat.le_of_ble_eq_true rfl) d_Mod_probe_2 ⟨Nat.zero_le _, Nat.zero_le _⟩ ?_
  refine zx_topi 1 (g_is_in hb (by omega)) ?_
  refine zx_if_eq (pc := 5) hF d_Mod_probe_5 (tgt := 17) rfl (fun h5 => ?_) (fun h5 => ?_)
  · exact absurd h5 (by decide)
  · refine zx_aload_n (pc := 8) hF d_Mod_probe_8 rfl 0 rfl ?_
    refine zg_Mod_26 (pc := 9) hF 0 rfl rfl d_Mod_probe_9 ?_
    refine zx_iload_n (pc := 12) hF d_Mod_probe_12 rfl 1 rfl ?_
    refine zx_zaldn (pc := 13) hF (i := b) 1 rfl (by omega) (by omega) d_Mod_probe_13 ?_
    refine zx_if_ne (pc := 14) hF d_Mod_probe_14 (tgt := 19) rfl (fun h14 => ?_) (fun h14 => ?_)
    · refine zx_aload_n (pc := 19) hF d_Mod_probe_19 rfl 0 rfl ?_
      refine zx_iload_n (pc := 20) hF d_Mod_probe_20 rfl 1 rfl ?_
      refine zx_Vv (pc := 21) hF (As := [.int (nI b)]) (rest := []) (fun sz => M_Mod_deal l D K M m0 bN sN0 pN k0 k1 now x_wd x_beg x_std x_dea x_frm x_alv x_stm x_mov x_dwn x_ctd x_cutm x_pha x_usd x_gol x_esr x_epo x_offm x_ast x_opn x_ssr x_spo x_awa x_dat kpt x_hd by0 to0 rep had ost bst x_inr dwn beg std dea fN sN b (by first | assumption | omega) (by first | assumption | omega) (by first | assumption | omega) (by first | assumption | omega) (by first | assumption | omega) sz) [0, 2, 3, 4, 5] rfl (by decide) (as := [m0, x_dwn, x_beg, x_std, x_dea]) rfl rfl (ws' := [cO m0 11 [.int (nI bN), .int (nI sN0), .int (nI pN), .long k0, .long k1, .int now, .ref x_wd, .ref x_beg, .ref x_std, .ref x_dea, .ref x_frm, .ref x_alv, .ref x_stm, .ref x_mov, .ref x_dwn, .ref x_ctd, .ref x_cutm, .ref x_pha, .ref x_usd, .ref x_gol, .ref x_esr, .ref x_epo, .ref x_offm, .ref x_ast, .ref x_opn, .ref x_ssr, .ref x_spo, .ref x_awa, .ref x_dat, .int kpt, .ref x_hd, .int by0, .int to0, .int rep, .int had, .int ost, .int bst, .ref x_inr], cZ K x_alv 4 alv, cZ K x_dwn 32 dwn, cI K x_beg 8 beg, cI K x_std 8 std, cI K x_dea 101 (g_deal fN sN pN sN0 (g_sh dwn b) dea), cI K x_frm 101 frm, cI K x_mov 4 mov, cZ K x_offm 8 offm, cZ K x_cutm 32 cutm, cI K x_ctd 32 ctd, cI K x_pha 32 pha, cI K x_gol 32 gol]) rfl 0 11 rfl rfl rfl (cw_Mod_189 hF.2.2.2.2.1 rfl rfl ⟨by decide, by decide⟩) rfl rfl (Nat.le_of_ble_eq_true rfl) d_Mod_probe_21 ⟨Nat.zero_le _, Nat.zero_le _⟩ ?_
      refine zx_iconst (pc := 24) hF d_Mod_probe_24 k_i0 ?_
      refine zx_istore_n (pc := 25) hF (lv' := [(2, .int 0), (0, .ref m0), (1, .int (nI b))]) d_Mod_probe_25 rfl (by decide) rfl ?_
      refine zx_lv [1, 2, 0] (lv' := [(0, .ref m0), (1, .int (nI b)), (2, .int 0)]) rfl ?_
      refine zx_loop (pc := 26) (σ := Nat × (Nat → Int32)) (fun kA zv => (zv.1 + kA = 101) ∧ (g_copy kA zv.1 (g_deal fN sN pN sN0 (g_sh dwn b) dea) zv.2 = g_copy 101 0 (g_deal fN sN pN sN0 (g_sh dwn b) dea) frm)) (fun zv => [cO m0 11 [.int (nI bN), .int (nI sN0), .int (nI pN), .long k0, .long k1, .int now, .ref x_wd, .ref x_beg, .ref x_std, .ref x_dea, .ref x_frm, .ref x_alv, .ref x_stm, .ref x_mov, .ref x_dwn, .ref x_ctd, .ref x_cutm, .ref x_pha, .ref x_usd, .ref x_gol, .ref x_esr, .ref x_epo, .ref x_offm, .ref x_ast, .ref x_opn, .ref x_ssr, .ref x_spo, .ref x_awa, .ref x_dat, .int kpt, .ref x_hd, .int by0, .int to0, .int rep, .int had, .int ost, .int bst, .ref x_inr], cZ K x_alv 4 alv, cZ K x_dwn 32 dwn, cI K x_beg 8 beg, cI K x_std 8 std, cI K x_dea 101 (g_deal fN sN pN sN0 (g_sh dwn b) dea), cI K x_frm 101 zv.2, cI K x_mov 4 mov, cZ K x_offm 8 offm, cZ K x_cutm 32 cutm, cI K x_ctd 32 ctd, cI K x_pha 32 pha, cI K x_gol 32 gol]) (fun zv => [(0, .ref m0), (1, .int (nI b)), (2, .int (nI zv.1))]) 101 (0, frm) ⟨rfl, rfl⟩ rfl rfl ?_
      intro kA zv hI ihA
      obtain ⟨j, f'⟩ := zv
      obtain ⟨hkA, hXA⟩ := hI
      replace hkA : j + kA = 101 := hkA
      replace hXA : g_copy kA j (g_deal fN sN pN sN0 (g_sh dwn b) dea) f' = g_copy 101 0 (g_deal fN sN pN sN0 (g_sh dwn b) dea) frm := hXA
      refine zx_eq (ws' := [cO m0 11 [.int (nI bN), .int (nI sN0), .int (nI pN), .long k0, .long k1, .int now, .ref x_wd, .ref x_beg, .ref x_std, .ref x_dea, .ref x_frm, .ref x_alv, .ref x_stm, .ref x_mov, .ref x_dwn, .ref x_ctd, .ref x_cutm, .ref x_pha, .ref x_usd, .ref x_gol, .ref x_esr, .ref x_epo, .ref x_offm, .ref x_ast, .ref x_opn, .ref x_ssr, .ref x_spo, .ref x_awa, .ref x_dat, .int kpt, .ref x_hd, .int by0, .int to0, .int rep, .int had, .int ost, .int bst, .ref x_inr], cZ K x_alv 4 alv, cZ K x_dwn 32 dwn, cI K x_beg 8 beg, cI K x_std 8 std, cI K x_dea 101 (g_deal fN sN pN sN0 (g_sh dwn b) dea), cI K x_frm 101 f', cI K x_mov 4 mov, cZ K x_offm 8 offm, cZ K x_cutm 32 cutm, cI K x_ctd 32 ctd, cI K x_pha 32 pha, cI K x_gol 32 gol]) (lv' := [(0, .ref m0), (1, .int (nI b)), (2, .int (nI j))]) rfl rfl rfl ?_
      refine zx_iload_n (pc := 26) hF d_Mod_probe_26 rfl 2 rfl ?_
      refine zx_bipush (pc := 27) hF d_Mod_probe_27 k_b101 ?_
      refine zx_icmp_ge (pc := 29) hF d_Mod_probe_29 (tgt := 50) rfl (fun h29 => ?_) (fun h29 => ?_)
      · replace h29 : 101 ≤ j := (nI_leI (a := 101) (b := j) (by omega) (by omega)).mp h29
        obtain rfl : kA = 0 := (by omega)
        have q_f' : f' = g_copy 101 0 (g_deal fN sN pN sN0 (g_sh dwn b) dea) frm := hXA
        subst q_f'
        refine zx_iconst (pc := 50) hF d_Mod_probe_50 k_i0 ?_
        refine zx_istore_n (pc := 51) hF (lv' := [(2, .int 0), (0, .ref m0), (1, .int (nI b))]) d_Mod_probe_51 rfl (by decide) rfl ?_
        refine zx_iconst (pc := 52) hF d_Mod_probe_52 k_i0 ?_
        refine zx_istore_n (pc := 53) hF (lv' := [(3, .int 0), (2, .int 0), (0, .ref m0), (1, .int (nI b))]) d_Mod_probe_53 rfl (by decide) rfl ?_
        refine zx_lv [2, 3, 1, 0] (lv' := [(0, .ref m0), (1, .int (nI b)), (2, .int 0), (3, .int 0)]) rfl ?_
        refine zx_loop (pc := 54) (σ := Nat × Nat × (Nat → Int32) × (Nat → Int32)) (fun kC zv => (zv.1 + kC = sN0) ∧ (g_asks offm cutm b kC zv.1 (zv.2.2.1, zv.2.2.2, zv.2.1) = g_asks offm cutm b sN0 0 (ctd, dwn, 0)) ∧ (zv.2.1 ≤ zv.1)) (fun zv => [cO m0 11 [.int (nI bN), .int (nI sN0), .int (nI pN), .long k0, .long k1, .int now, .ref x_wd, .ref x_beg, .ref x_std, .ref x_dea, .ref x_frm, .ref x_alv, .ref x_stm, .ref x_mov, .ref x_dwn, .ref x_ctd, .ref x_cutm, .ref x_pha, .ref x_usd, .ref x_gol, .ref x_esr, .ref x_epo, .ref x_offm, .ref x_ast, .ref x_opn, .ref x_ssr, .ref x_spo, .ref x_awa, .ref x_dat, .int kpt, .ref x_hd, .int by0, .int to0, .int rep, .int had, .int ost, .int bst, .ref x_inr], cZ K x_alv 4 alv, cZ K x_dwn 32 zv.2.2.2, cI K x_beg 8 beg, cI K x_std 8 std, cI K x_dea 101 (g_deal fN sN pN sN0 (g_sh dwn b) dea), cI K x_frm 101 (g_copy 101 0 (g_deal fN sN pN sN0 (g_sh dwn b) dea) frm), cI K x_mov 4 mov, cZ K x_offm 8 offm, cZ K x_cutm 32 cutm, cI K x_ctd 32 zv.2.2.1, cI K x_pha 32 pha, cI K x_gol 32 gol]) (fun zv => [(0, .ref m0), (1, .int (nI b)), (2, .int (nI zv.2.1)), (3, .int (nI zv.1))]) sN0 (0, 0, ctd, dwn) ⟨by first | omega | (dsimp only; omega) | dsimp only, rfl, by first | omega | (dsimp only; omega) | dsimp only⟩ rfl rfl ?_
        intro kC zv hI ihC
        obtain ⟨j, c, ctd', dwn'⟩ := zv
        obtain ⟨hkC, hXC, hcC⟩ := hI
        replace hkC : j + kC = sN0 := hkC
        replace hXC : g_asks offm cutm b kC j (ctd', dwn', c) = g_asks offm cutm b sN0 0 (ctd, dwn, 0) := hXC
        replace hcC : c ≤ j := hcC
        refine zx_eq (ws' := [cO m0 11 [.int (nI bN), .int (nI sN0), .int (nI pN), .long k0, .long k1, .int now, .ref x_wd, .ref x_beg, .ref x_std, .ref x_dea, .ref x_frm, .ref x_alv, .ref x_stm, .ref x_mov, .ref x_dwn, .ref x_ctd, .ref x_cutm, .ref x_pha, .ref x_usd, .ref x_gol, .ref x_esr, .ref x_epo, .ref x_offm, .ref x_ast, .ref x_opn, .ref x_ssr, .ref x_spo, .ref x_awa, .ref x_dat, .int kpt, .ref x_hd, .int by0, .int to0, .int rep, .int had, .int ost, .int bst, .ref x_inr], cZ K x_alv 4 alv, cZ K x_dwn 32 dwn', cI K x_beg 8 beg, cI K x_std 8 std, cI K x_dea 101 (g_deal fN sN pN sN0 (g_sh dwn b) dea), cI K x_frm 101 (g_copy 101 0 (g_deal fN sN pN sN0 (g_sh dwn b) dea) frm), cI K x_mov 4 mov, cZ K x_offm 8 offm, cZ K x_cutm 32 cutm, cI K x_ctd 32 ctd', cI K x_pha 32 pha, cI K x_gol 32 gol]) (lv' := [(0, .ref m0), (1, .int (nI b)), (2, .int (nI c)), (3, .int (nI j))]) rfl rfl rfl ?_
        refine zx_iload_n (pc := 54) hF d_Mod_probe_54 rfl 3 rfl ?_
        refine zx_aload_n (pc := 55) hF d_Mod_probe_55 rfl 0 rfl ?_
        refine zg_Mod_104 (pc := 56) hF 0 rfl rfl d_Mod_probe_56 ?_
        refine zx_icmp_ge (pc := 59) hF d_Mod_probe_59 (tgt := 85) rfl (fun h59 => ?_) (fun h59 => ?_)
        · replace h59 : sN0 ≤ j := (nI_leI (a := sN0) (b := j) (by omega) (by omega)).mp h59
          obtain rfl : kC = 0 := (by omega)
          have q_ctd' : ctd' = (g_asks offm cutm b sN0 0 (ctd, dwn, 0)).1 := congrArg (fun x => x.1) hXC
          subst q_ctd'
          have q_dwn' : dwn' = (g_asks offm cutm b sN0 0 (ctd, dwn, 0)).2.1 := congrArg (fun x => x.2.1) hXC
          subst q_dwn'
          have q_c : c = (g_asks offm cutm b sN0 0 (ctd, dwn, 0)).2.2 := congrArg (fun x => x.2.2) hXC
          subst q_c
          refine zx_iload_n (pc := 85) hF d_Mod_probe_85 rfl 2 rfl ?_
          refine zx_if_ne (pc := 86) hF d_Mod_probe_86 (tgt := 91) rfl (fun h86 => ?_) (fun h86 => ?_)
          · replace h86 : ¬ (g_asks offm cutm b sN0 0 (ctd, dwn, 0)).2.2 = 0 := fun z => h86 ((nI_eq (a := (g_asks offm cutm b sN0 0 (ctd, dwn, 0)).2.2) (b := 0) (by omega) (by omega)).mpr z)
            refine zx_bipush (pc := 91) hF d_Mod_probe_91 k_b8 ?_
            refine zx_iload_n (pc := 93) hF d_Mod_probe_93 rfl 1 rfl ?_
            refine zx_imul (pc := 94) hF d_Mod_probe_94 ?_
            refine zx_topi (nI (8 * b)) (pk_mul 8 b) ?_
            refine zx_istore_n (pc := 95) hF (lv' := [(3, .int (nI (8 * b))), (0, .ref m0), (1, .int (nI b)), (2, .int (nI (g_asks offm cutm b sN0 0 (ctd, dwn, 0)).2.2))]) d_Mod_probe_95 rfl (by decide) rfl ?_
            refine zx_lv [1, 2, 3, 0] (lv' := [(0, .ref m0), (1, .int (nI b)), (2, .int (nI (g_asks offm cutm b sN0 0 (ctd, dwn, 0)).2.2)), (3, .int (nI (8 * b)))]) rfl ?_
            refine zx_loop (pc := 96) (σ := Nat × (Nat → Int32)) (fun kE zv => (zv.1 + kE = 8 * b + 8) ∧ (g_purge (g_asks offm cutm b sN0 0 (ctd, dwn, 0)).2.1 gol b kE zv.1 zv.2 = g_purge (g_asks offm cutm b sN0 0 (ctd, dwn, 0)).2.1 gol b 8 (8 * b) pha) ∧ (8 * b ≤ zv.1)) (fun zv => [cO m0 11 [.int (nI bN), .int (nI sN0), .int (nI pN), .long k0, .long k1, .int now, .ref x_wd, .ref x_beg, .ref x_std, .ref x_dea, .ref x_frm, .ref x_alv, .ref x_stm, .ref x_mov, .ref x_dwn, .ref x_ctd, .ref x_cutm, .ref x_pha, .ref x_usd, .ref x_gol, .ref x_esr, .ref x_epo, .ref x_offm, .ref x_ast, .ref x_opn, .ref x_ssr, .ref x_spo, .ref x_awa, .ref x_dat, .int kpt, .ref x_hd, .int by0, .int to0, .int rep, .int had, .int ost, .int bst, .ref x_inr], cZ K x_alv 4 alv, cZ K x_dwn 32 (g_asks offm cutm b sN0 0 (ctd, dwn, 0)).2.1, cI K x_beg 8 beg, cI K x_std 8 std, cI K x_dea 101 (g_deal fN sN pN sN0 (g_sh dwn b) dea), cI K x_frm 101 (g_copy 101 0 (g_deal fN sN pN sN0 (g_sh dwn b) dea) frm), cI K x_mov 4 mov, cZ K x_offm 8 offm, cZ K x_cutm 32 cutm, cI K x_ctd 32 (g_asks offm cutm b sN0 0 (ctd, dwn, 0)).1, cI K x_pha 32 zv.2, cI K x_gol 32 gol]) (fun zv => [(0, .ref m0), (1, .int (nI b)), (2, .int (nI (g_asks offm cutm b sN0 0 (ctd, dwn, 0)).2.2)), (3, .int (nI zv.1))]) 8 (8 * b, pha) ⟨rfl, rfl, by first | omega | (dsimp only; omega) | dsimp only⟩ rfl rfl ?_
            intro kE zv hI ihE
            obtain ⟨e, f'⟩ := zv
            obtain ⟨hkE, hXE, hbE⟩ := hI
            replace hkE : e + kE = 8 * b + 8 := hkE
            replace hXE : g_purge (g_asks offm cutm b sN0 0 (ctd, dwn, 0)).2.1 gol b kE e f' = g_purge (g_asks offm cutm b sN0 0 (ctd, dwn, 0)).2.1 gol b 8 (8 * b) pha := hXE
            replace hbE : 8 * b ≤ e := hbE
            refine zx_eq (ws' := [cO m0 11 [.int (nI bN), .int (nI sN0), .int (nI pN), .long k0, .long k1, .int now, .ref x_wd, .ref x_beg, .ref x_std, .ref x_dea, .ref x_frm, .ref x_alv, .ref x_stm, .ref x_mov, .ref x_dwn, .ref x_ctd, .ref x_cutm, .ref x_pha, .ref x_usd, .ref x_gol, .ref x_esr, .ref x_epo, .ref x_offm, .ref x_ast, .ref x_opn, .ref x_ssr, .ref x_spo, .ref x_awa, .ref x_dat, .int kpt, .ref x_hd, .int by0, .int to0, .int rep, .int had, .int ost, .int bst, .ref x_inr], cZ K x_alv 4 alv, cZ K x_dwn 32 (g_asks offm cutm b sN0 0 (ctd, dwn, 0)).2.1, cI K x_beg 8 beg, cI K x_std 8 std, cI K x_dea 101 (g_deal fN sN pN sN0 (g_sh dwn b) dea), cI K x_frm 101 (g_copy 101 0 (g_deal fN sN pN sN0 (g_sh dwn b) dea) frm), cI K x_mov 4 mov, cZ K x_offm 8 offm, cZ K x_cutm 32 cutm, cI K x_ctd 32 (g_asks offm cutm b sN0 0 (ctd, dwn, 0)).1, cI K x_pha 32 f', cI K x_gol 32 gol]) (lv' := [(0, .ref m0), (1, .int (nI b)), (2, .int (nI (g_asks offm cutm b sN0 0 (ctd, dwn, 0)).2.2)), (3, .int (nI e))]) rfl rfl rfl ?_
            refine zx_iload_n (pc := 96) hF d_Mod_probe_96 rfl 3 rfl ?_
            refine zx_bipush (pc := 97) hF d_Mod_probe_97 k_b8 ?_
            refine zx_iload_n (pc := 99) hF d_Mod_probe_99 rfl 1 rfl ?_
            refine zx_imul (pc := 100) hF d_Mod_probe_100 ?_
            refine zx_topi (nI (8 * b)) (pk_mul 8 b) ?_
            refine zx_bipush (pc := 101) hF d_Mod_probe_101 k_b8 ?_
            refine zx_iadd (pc := 103) hF d_Mod_probe_103 ?_
            refine zx_topi (nI ((8 * b) + 8)) (nI_add (8 * b) 8) ?_
            refine zx_icmp_ge (pc := 104) hF d_Mod_probe_104 (tgt := 148) rfl (fun h104 => ?_) (fun h104 => ?_)
            · replace h104 : ((8 * b) + 8) ≤ e := (nI_leI (a := (8 * b) + 8) (b := e) (by omega) (by omega)).mp h104
              obtain rfl : kE = 0 := (by omega)
              have q_f' : f' = g_purge (g_asks offm cutm b sN0 0 (ctd, dwn, 0)).2.1 gol b 8 (8 * b) pha := hXE
              subst q_f'
              refine zx_aload_n (pc := 148) hF d_Mod_probe_148 rfl 0 rfl ?_
              refine zx_iload_n (pc := 149) hF d_Mod_probe_149 rfl 1 rfl ?_
              refine zx_Vv (pc := 150) hF (As := [.int (nI b)]) (rest := []) (fun sz => M_Mod_deal l D K M m0 bN sN0 pN k0 k1 now x_wd x_beg x_std x_dea x_frm x_alv x_stm x_mov x_dwn x_ctd x_cutm x_pha x_usd x_gol x_esr x_epo x_offm x_ast x_opn x_ssr x_spo x_awa x_dat kpt x_hd by0 to0 rep had ost bst x_inr (g_asks offm cutm b sN0 0 (ctd, dwn, 0)).2.1 beg std (g_deal fN sN pN sN0 (g_sh dwn b) dea) fN sN b (by first | assumption | omega) (by first | assumption | omega) (by first | assumption | omega) (by first | assumption | omega) (by first | assumption | omega) sz) [0, 2, 3, 4, 5] rfl (by decide) (as := [m0, x_dwn, x_beg, x_std, x_dea]) rfl rfl (ws' := [cO m0 11 [.int (nI bN), .int (nI sN0), .int (nI pN), .long k0, .long k1, .int now, .ref x_wd, .ref x_beg, .ref x_std, .ref x_dea, .ref x_frm, .ref x_alv, .ref x_stm, .ref x_mov, .ref x_dwn, .ref x_ctd, .ref x_cutm, .ref x_pha, .ref x_usd, .ref x_gol, .ref x_esr, .ref x_epo, .ref x_offm, .ref x_ast, .ref x_opn, .ref x_ssr, .ref x_spo, .ref x_awa, .ref x_dat, .int kpt, .ref x_hd, .int by0, .int to0, .int rep, .int had, .int ost, .int bst, .ref x_inr], cZ K x_alv 4 alv, cZ K x_dwn 32 (g_asks offm cutm b sN0 0 (ctd, dwn, 0)).2.1, cI K x_beg 8 beg, cI K x_std 8 std, cI K x_dea 101 (g_deal fN sN pN sN0 (g_sh (g_asks offm cutm b sN0 0 (ctd, dwn, 0)).2.1 b) (g_deal fN sN pN sN0 (g_sh dwn b) dea)), cI K x_frm 101 (g_copy 101 0 (g_deal fN sN pN sN0 (g_sh dwn b) dea) frm), cI K x_mov 4 mov, cZ K x_offm 8 offm, cZ K x_cutm 32 cutm, cI K x_ctd 32 (g_asks offm cutm b sN0 0 (ctd, dwn, 0)).1, cI K x_pha 32 (g_purge (g_asks offm cutm b sN0 0 (ctd, dwn, 0)).2.1 gol b 8 (8 * b) pha), cI K x_gol 32 gol]) rfl 0 11 rfl rfl rfl (cw_Mod_189 hF.2.2.2.2.1 rfl rfl ⟨by decide, by decide⟩) rfl rfl (Nat.le_of_ble_eq_true rfl) d_Mod_probe_150 ⟨Nat.zero_le _, Nat.zero_le _⟩ ?_
              refine zx_iconst (pc := 153) hF d_Mod_probe_153 k_i0 ?_
              refine zx_istore_n (pc := 154) hF (lv' := [(3, .int 0), (0, .ref m0), (1, .int (nI b)), (2, .int (nI (g_asks offm cutm b sN0 0 (ctd, dwn, 0)).2.2))]) d_Mod_probe_154 rfl (by decide) rfl ?_
              refine zx_iconst (pc := 155) hF d_Mod_probe_155 k_i0 ?_
              refine zx_istore (pc := 156) hF (lv' := [(4, .int 0), (3, .int 0), (0, .ref m0), (1, .int (nI b)), (2, .int (nI (g_asks offm cutm b sN0 0 (ctd, dwn, 0)).2.2))]) d_Mod_probe_156 (by decide) rfl ?_
              refine zx_lv [2, 3, 4, 1, 0] (lv' := [(0, .ref m0), (1, .int (nI b)), (2, .int (nI (g_asks offm cutm b sN0 0 (ctd, dwn, 0)).2.2)), (3, .int 0), (4, .int 0)]) rfl ?_
              refine zx_loop (pc := 158) (σ := Nat × Nat) (fun kG zv => (zv.1 + kG = pN) ∧ (f_count (fun p => !((g_deal fN sN pN sN0 (g_sh (g_asks offm cutm b sN0 0 (ctd, dwn, 0)).2.1 b) (g_deal fN sN pN sN0 (g_sh dwn b) dea)) p == (g_copy 101 0 (g_deal fN sN pN sN0 (g_sh dwn b) dea) frm) p)) kG zv.1 zv.2 = f_count (fun p => !((g_deal fN sN pN sN0 (g_sh (g_asks offm cutm b sN0 0 (ctd, dwn, 0)).2.1 b) (g_deal fN sN pN sN0 (g_sh dwn b) dea)) p == (g_copy 101 0 (g_deal fN sN pN sN0 (g_sh dwn b) dea) frm) p)) pN 0 0)) (fun zv => [cO m0 11 [.int (nI bN), .int (nI sN0), .int (nI pN), .long k0, .long k1, .int now, .ref x_wd, .ref x_beg, .ref x_std, .ref x_dea, .ref x_frm, .ref x_alv, .ref x_stm, .ref x_mov, .ref x_dwn, .ref x_ctd, .ref x_cutm, .ref x_pha, .ref x_usd, .ref x_gol, .ref x_esr, .ref x_epo, .ref x_offm, .ref x_ast, .ref x_opn, .ref x_ssr, .ref x_spo, .ref x_awa, .ref x_dat, .int kpt, .ref x_hd, .int by0, .int to0, .int rep, .int had, .int ost, .int bst, .ref x_inr], cZ K x_alv 4 alv, cZ K x_dwn 32 (g_asks offm cutm b sN0 0 (ctd, dwn, 0)).2.1, cI K x_beg 8 beg, cI K x_std 8 std, cI K x_dea 101 (g_deal fN sN pN sN0 (g_sh (g_asks offm cutm b sN0 0 (ctd, dwn, 0)).2.1 b) (g_deal fN sN pN sN0 (g_sh dwn b) dea)), cI K x_frm 101 (g_copy 101 0 (g_deal fN sN pN sN0 (g_sh dwn b) dea) frm), cI K x_mov 4 mov, cZ K x_offm 8 offm, cZ K x_cutm 32 cutm, cI K x_ctd 32 (g_asks offm cutm b sN0 0 (ctd, dwn, 0)).1, cI K x_pha 32 (g_purge (g_asks offm cutm b sN0 0 (ctd, dwn, 0)).2.1 gol b 8 (8 * b) pha), cI K x_gol 32 gol]) (fun zv => [(0, .ref m0), (1, .int (nI b)), (2, .int (nI (g_asks offm cutm b sN0 0 (ctd, dwn, 0)).2.2)), (3, .int (nI zv.2)), (4, .int (nI zv.1))]) pN (0, 0) ⟨by first | omega | (dsimp only; omega) | dsimp only, rfl⟩ rfl rfl ?_
              intro kG zv hI ihG
              obtain ⟨j, c⟩ := zv
              obtain ⟨hkG, hXG⟩ := hI
              replace hkG : j + kG = pN := hkG
              replace hXG : f_count (fun p => !((g_deal fN sN pN sN0 (g_sh (g_asks offm cutm b sN0 0 (ctd, dwn, 0)).2.1 b) (g_deal fN sN pN sN0 (g_sh dwn b) dea)) p == (g_copy 101 0 (g_deal fN sN pN sN0 (g_sh dwn b) dea) frm) p)) kG j c = f_count (fun p => !((g_deal fN sN pN sN0 (g_sh (g_asks offm cutm b sN0 0 (ctd, dwn, 0)).2.1 b) (g_deal fN sN pN sN0 (g_sh dwn b) dea)) p == (g_copy 101 0 (g_deal fN sN pN sN0 (g_sh dwn b) dea) frm) p)) pN 0 0 := hXG
              refine zx_eq (ws' := [cO m0 11 [.int (nI bN), .int (nI sN0), .int (nI pN), .long k0, .long k1, .int now, .ref x_wd, .ref x_beg, .ref x_std, .ref x_dea, .ref x_frm, .ref x_alv, .ref x_stm, .ref x_mov, .ref x_dwn, .ref x_ctd, .ref x_cutm, .ref x_pha, .ref x_usd, .ref x_gol, .ref x_esr, .ref x_epo, .ref x_offm, .ref x_ast, .ref x_opn, .ref x_ssr, .ref x_spo, .ref x_awa, .ref x_dat, .int kpt, .ref x_hd, .int by0, .int to0, .int rep, .int had, .int ost, .int bst, .ref x_inr], cZ K x_alv 4 alv, cZ K x_dwn 32 (g_asks offm cutm b sN0 0 (ctd, dwn, 0)).2.1, cI K x_beg 8 beg, cI K x_std 8 std, cI K x_dea 101 (g_deal fN sN pN sN0 (g_sh (g_asks offm cutm b sN0 0 (ctd, dwn, 0)).2.1 b) (g_deal fN sN pN sN0 (g_sh dwn b) dea)), cI K x_frm 101 (g_copy 101 0 (g_deal fN sN pN sN0 (g_sh dwn b) dea) frm), cI K x_mov 4 mov, cZ K x_offm 8 offm, cZ K x_cutm 32 cutm, cI K x_ctd 32 (g_asks offm cutm b sN0 0 (ctd, dwn, 0)).1, cI K x_pha 32 (g_purge (g_asks offm cutm b sN0 0 (ctd, dwn, 0)).2.1 gol b 8 (8 * b) pha), cI K x_gol 32 gol]) (lv' := [(0, .ref m0), (1, .int (nI b)), (2, .int (nI (g_asks offm cutm b sN0 0 (ctd, dwn, 0)).2.2)), (3, .int (nI c)), (4, .int (nI j))]) rfl rfl rfl ?_
              refine zx_iload (pc := 158) hF d_Mod_probe_158 4 rfl ?_
              refine zx_aload_n (pc := 160) hF d_Mod_probe_160 rfl 0 rfl ?_
              refine zg_Mod_107 (pc := 161) hF 0 rfl rfl d_Mod_probe_161 ?_
              refine zx_icmp_ge (pc := 164) hF d_Mod_probe_164 (tgt := 198) rfl (fun h164 => ?_) (fun h164 => ?_)
              · replace h164 : pN ≤ j := (nI_leI (a := pN) (b := j) (by omega) (by omega)).mp h164
                obtain rfl : kG = 0 := (by omega)
                have q_c : c = f_count (fun p => !((g_deal fN sN pN sN0 (g_sh (g_asks offm cutm b sN0 0 (ctd, dwn, 0)).2.1 b) (g_deal fN sN pN sN0 (g_sh dwn b) dea)) p == (g_copy 101 0 (g_deal fN sN pN sN0 (g_sh dwn b) dea) frm) p)) pN 0 0 := hXG
                subst q_c
                refine zx_aload_n (pc := 198) hF d_Mod_probe_198 rfl 0 rfl ?_
                refine zg_Mod_33 (pc := 199) hF 0 rfl rfl d_Mod_probe_199 ?_
                refine zx_iload_n (pc := 202) hF d_Mod_probe_202 rfl 1 rfl ?_
                refine zx_iload_n (pc := 203) hF d_Mod_probe_203 rfl 3 rfl ?_
                refine zx_iastn (pc := 204) hF (i := b) 7 rfl (by omega) (by omega) d_Mod_probe_204 (ws' := [cO m0 11 [.int (nI bN), .int (nI sN0), .int (nI pN), .long k0, .long k1, .int now, .ref x_wd, .ref x_beg, .ref x_std, .ref x_dea, .ref x_frm, .ref x_alv, .ref x_stm, .ref x_mov, .ref x_dwn, .ref x_ctd, .ref x_cutm, .ref x_pha, .ref x_usd, .ref x_gol, .ref x_esr, .ref x_epo, .ref x_offm, .ref x_ast, .ref x_opn, .ref x_ssr, .ref x_spo, .ref x_awa, .ref x_dat, .int kpt, .ref x_hd, .int by0, .int to0, .int rep, .int had, .int ost, .int bst, .ref x_inr], cZ K x_alv 4 alv, cZ K x_dwn 32 (g_asks offm cutm b sN0 0 (ctd, dwn, 0)).2.1, cI K x_beg 8 beg, cI K x_std 8 std, cI K x_dea 101 (g_deal fN sN pN sN0 (g_sh (g_asks offm cutm b sN0 0 (ctd, dwn, 0)).2.1 b) (g_deal fN sN pN sN0 (g_sh dwn b) dea)), cI K x_frm 101 (g_copy 101 0 (g_deal fN sN pN sN0 (g_sh dwn b) dea) frm), cI K x_mov 4 (upd mov b (nI (f_count (fun p => !((g_deal fN sN pN sN0 (g_sh (g_asks offm cutm b sN0 0 (ctd, dwn, 0)).2.1 b) (g_deal fN sN pN sN0 (g_sh dwn b) dea)) p == (g_copy 101 0 (g_deal fN sN pN sN0 (g_sh dwn b) dea) frm) p)) pN 0 0))), cZ K x_offm 8 offm, cZ K x_cutm 32 cutm, cI K x_ctd 32 (g_asks offm cutm b sN0 0 (ctd, dwn, 0)).1, cI K x_pha 32 (g_purge (g_asks offm cutm b sN0 0 (ctd, dwn, 0)).2.1 gol b 8 (8 * b) pha), cI K x_gol 32 gol]) rfl ?_
                refine zx_iload_n (pc := 205) hF d_Mod_probe_205 rfl 2 rfl ?_
                exact zx_iret (pc := 206) hF hr hlk (by first | rfl | (simp only [if_neg h14, if_pos h29, if_pos h59, if_neg h86, if_pos h104, if_pos h164]; done) | (simp only [h14, h29, h59, h86, h104, h164, ↓reduceIte]; done) | simp [h14, h29, h59, h86, h104, h164]) (by first | rfl | (simp only [if_neg h14, if_pos h29, if_pos h59, if_neg h86, if_pos h104, if_pos h164]; done) | (simp only [h14, h29, h59, h86, h104, h164, ↓reduceIte]; done) | simp [h14, h29, h59, h86, h104, h164]) d_Mod_probe_206
              · replace h164 : ¬ pN ≤ j := fun z => h164 ((nI_leI (a := pN) (b := j) (by omega) (by omega)).mpr z)
                refine zx_aload_n (pc := 167) hF d_Mod_probe_167 rfl 0 rfl ?_
                refine zg_Mod_20 (pc := 168) hF 0 rfl rfl d_Mod_probe_168 ?_
                refine zx_iload (pc := 171) hF d_Mod_probe_171 4 rfl ?_
                refine zx_ialdn (pc := 173) hF (i := j) 5 rfl (by omega) (by omega) d_Mod_probe_173 ?_
                refine zx_aload_n (pc := 174) hF d_Mod_probe_174 rfl 0 rfl ?_
                refine zg_Mod_23 (pc := 175) hF 0 rfl rfl d_Mod_probe_175 ?_
                refine zx_iload (pc := 178) hF d_Mod_probe_178 4 rfl ?_
                refine zx_ialdn (pc := 180) hF (i := j) 6 rfl (by omega) (by omega) d_Mod_probe_180 ?_
                refine zx_icmp_ne (pc := 181) hF d_Mod_probe_181 (tgt := 188) rfl (fun h181 => ?_) (fun h181 => ?_)
                · refine zx_iload_n (pc := 188) hF d_Mod_probe_188 rfl 3 rfl ?_
                  refine zx_iconst (pc := 189) hF d_Mod_probe_189 k_i1 ?_
                  refine zx_iadd (pc := 190) hF d_Mod_probe_190 ?_
                  refine zx_topi (nI (c + 1)) (nI_add c 1) ?_
                  refine zx_istore_n (pc := 191) hF (lv' := [(3, .int (nI (c + 1))), (0, .ref m0), (1, .int (nI b)), (2, .int (nI (g_asks offm cutm b sN0 0 (ctd, dwn, 0)).2.2)), (4, .int (nI j))]) d_Mod_probe_191 rfl (by decide) rfl ?_
                  refine zx_iinc (pc := 192) hF (v := nI (j + 1)) (lv' := [(4, .int (nI (j + 1))), (3, .int (nI (c + 1))), (0, .ref m0), (1, .int (nI b)), (2, .int (nI (g_asks offm cutm b sN0 0 (ctd, dwn, 0)).2.2))]) d_Mod_probe_192 4 rfl (zinc j) (by decide) rfl ?_
                  refine zx_goto (pc := 195) hF d_Mod_probe_195 (tgt := 158) rfl ?_
                  refine zx_lv [2, 3, 4, 1, 0] (lv' := [(0, .ref m0), (1, .int (nI b)), (2, .int (nI (g_asks offm cutm b sN0 0 (ctd, dwn, 0)).2.2)), (3, .int (nI (c + 1))), (4, .int (nI (j + 1)))]) rfl ?_
                  exact ihG (kG - 1) (j + 1, c + 1) (by omega) ⟨by first | omega | (dsimp only; omega) | dsimp only, by obtain ⟨k', rfl⟩ : ∃ k', kG = k' + 1 := ⟨kG - 1, by omega⟩; simpa [f_count, h181] using hXG⟩
                · refine zx_iload_n (pc := 184) hF d_Mod_probe_184 rfl 3 rfl ?_
                  refine zx_goto (pc := 185) hF d_Mod_probe_185 (tgt := 191) rfl ?_
                  refine zx_istore_n (pc := 191) hF (lv' := [(3, .int (nI c)), (0, .ref m0), (1, .int (nI b)), (2, .int (nI (g_asks offm cutm b sN0 0 (ctd, dwn, 0)).2.2)), (4, .int (nI j))]) d_Mod_probe_191 rfl (by decide) rfl ?_
                  refine zx_iinc (pc := 192) hF (v := nI (j + 1)) (lv' := [(4, .int (nI (j + 1))), (3, .int (nI c)), (0, .ref m0), (1, .int (nI b)), (2, .int (nI (g_asks offm cutm b sN0 0 (ctd, dwn, 0)).2.2))]) d_Mod_probe_192 4 rfl (zinc j) (by decide) rfl ?_
                  refine zx_goto (pc := 195) hF d_Mod_probe_195 (tgt := 158) rfl ?_
                  refine zx_lv [2, 3, 4, 1, 0] (lv' := [(0, .ref m0), (1, .int (nI b)), (2, .int (nI (g_asks offm cutm b sN0 0 (ctd, dwn, 0)).2.2)), (3, .int (nI c)), (4, .int (nI (j + 1)))]) rfl ?_
                  exact ihG (kG - 1) (j + 1, c) (by omega) ⟨by first | omega | (dsimp only; omega) | dsimp only, by obtain ⟨k', rfl⟩ : ∃ k', kG = k' + 1 := ⟨kG - 1, by omega⟩; simpa [f_count, h181] using hXG⟩
            · replace h104 : ¬ ((8 * b) + 8) ≤ e := fun z => h104 ((nI_leI (a := (8 * b) + 8) (b := e) (by omega) (by omega)).mpr z)
              refine zx_aload_n (pc := 107) hF d_Mod_probe_107 rfl 0 rfl ?_
              refine zg_Mod_45 (pc := 108) hF 0 rfl rfl d_Mod_probe_108 ?_
              refine zx_iload_n (pc := 111) hF d_Mod_probe_111 rfl 3 rfl ?_
              refine zx_ialdn (pc := 112) hF (i := e) 11 rfl (by omega) (by omega) d_Mod_probe_112 ?_
              refine zx_if_le (pc := 113) hF d_Mod_probe_113 (tgt := 142) rfl (fun h113 => ?_) (fun h113 => ?_)
              · refine zx_iinc (pc := 142) hF (v := nI (e + 1)) (lv' := [(3, .int (nI (e + 1))), (0, .ref m0), (1, .int (nI b)), (2, .int (nI (g_asks offm cutm b sN0 0 (ctd, dwn, 0)).2.2))]) d_Mod_probe_142 3 rfl (zinc e) (by decide) rfl ?_
                refine zx_goto (pc := 145) hF d_Mod_probe_145 (tgt := 96) rfl ?_
                refine zx_lv [1, 2, 3, 0] (lv' := [(0, .ref m0), (1, .int (nI b)), (2, .int (nI (g_asks offm cutm b sN0 0 (ctd, dwn, 0)).2.2)), (3, .int (nI (e + 1)))]) rfl ?_
                exact ihE (kE - 1) (e + 1, f') (by omega) ⟨by first | omega | (dsimp only; omega) | dsimp only, by obtain ⟨k', rfl⟩ : ∃ k', kE = k' + 1 := ⟨kE - 1, by omega⟩; simpa [g_purge, h113] using hXE, by first | omega | (dsimp only; omega) | dsimp only⟩
              · refine zx_aload_n (pc := 116) hF d_Mod_probe_116 rfl 0 rfl ?_
                refine zg_Mod_36 (pc := 117) hF 0 rfl rfl d_Mod_probe_117 ?_
                refine zx_bipush (pc := 120) hF d_Mod_probe_120 k_b8 ?_
                refine zx_iload_n (pc := 122) hF d_Mod_probe_122 rfl 1 rfl ?_
                refine zx_imul (pc := 123) hF d_Mod_probe_123 ?_
                refine zx_topi (nI (8 * b)) (pk_mul 8 b) ?_
                refine zx_aload_n (pc := 124) hF d_Mod_probe_124 rfl 0 rfl ?_
                refine zg_Mod_51 (pc := 125) hF 0 rfl rfl d_Mod_probe_125 ?_
                refine zx_iload_n (pc := 128) hF d_Mod_probe_128 rfl 3 rfl ?_
                refine zx_ialdn (pc := 129) hF (i := e) 12 rfl (by omega) (by omega) d_Mod_probe_129 ?_
                refine zx_topi (nI (Int32.toNatClampNeg (gol e))) ((zcl (by omega) (hg e (by omega))).1) ?_
                refine zx_iadd (pc := 130) hF d_Mod_probe_130 ?_
                refine zx_topi (nI ((8 * b) + (Int32.toNatClampNeg (gol e)))) (nI_add (8 * b) (Int32.toNatClampNeg (gol e))) ?_
                refine zx_zaldn (pc := 131) hF (i := (8 * b) + (Int32.toNatClampNeg (gol e))) 2 rfl (by have := (zcl (by omega) (hg e (by omega))).2; omega) (by omega) d_Mod_probe_131 ?_
                refine zx_if_eq (pc := 132) hF d_Mod_probe_132 (tgt := 142) rfl (fun h132 => ?_) (fun h132 => ?_)
                · refine zx_iinc (pc := 142) hF (v := nI (e + 1)) (lv' := [(3, .int (nI (e + 1))), (0, .ref m0), (1, .int (nI b)), (2, .int (nI (g_asks offm cutm b sN0 0 (ctd, dwn, 0)).2.2))]) d_Mod_probe_142 3 rfl (zinc e) (by decide) rfl ?_
                  refine zx_goto (pc := 145) hF d_Mod_probe_145 (tgt := 96) rfl ?_
                  refine zx_lv [1, 2, 3, 0] (lv' := [(0, .ref m0), (1, .int (nI b)), (2, .int (nI (g_asks offm cutm b sN0 0 (ctd, dwn, 0)).2.2)), (3, .int (nI (e + 1)))]) rfl ?_
                  exact ihE (kE - 1) (e + 1, f') (by omega) ⟨by first | omega | (dsimp only; omega) | dsimp only, by obtain ⟨k', rfl⟩ : ∃ k', kE = k' + 1 := ⟨kE - 1, by omega⟩; simpa [g_purge, h113, h132] using hXE, by first | omega | (dsimp only; omega) | dsimp only⟩
                · refine zx_aload_n (pc := 135) hF d_Mod_probe_135 rfl 0 rfl ?_
                  refine zg_Mod_45 (pc := 136) hF 0 rfl rfl d_Mod_probe_136 ?_
                  refine zx_iload_n (pc := 139) hF d_Mod_probe_139 rfl 3 rfl ?_
                  refine zx_iconst (pc := 140) hF d_Mod_probe_140 k_i0 ?_
                  refine zx_iastn (pc := 141) hF (i := e) 11 rfl (by omega) (by omega) d_Mod_probe_141 (ws' := [cO m0 11 [.int (nI bN), .int (nI sN0), .int (nI pN), .long k0, .long k1, .int now, .ref x_wd, .ref x_beg, .ref x_std, .ref x_dea, .ref x_frm, .ref x_alv, .ref x_stm, .ref x_mov, .ref x_dwn, .ref x_ctd, .ref x_cutm, .ref x_pha, .ref x_usd, .ref x_gol, .ref x_esr, .ref x_epo, .ref x_offm, .ref x_ast, .ref x_opn, .ref x_ssr, .ref x_spo, .ref x_awa, .ref x_dat, .int kpt, .ref x_hd, .int by0, .int to0, .int rep, .int had, .int ost, .int bst, .ref x_inr], cZ K x_alv 4 alv, cZ K x_dwn 32 (g_asks offm cutm b sN0 0 (ctd, dwn, 0)).2.1, cI K x_beg 8 beg, cI K x_std 8 std, cI K x_dea 101 (g_deal fN sN pN sN0 (g_sh dwn b) dea), cI K x_frm 101 (g_copy 101 0 (g_deal fN sN pN sN0 (g_sh dwn b) dea) frm), cI K x_mov 4 mov, cZ K x_offm 8 offm, cZ K x_cutm 32 cutm, cI K x_ctd 32 (g_asks offm cutm b sN0 0 (ctd, dwn, 0)).1, cI K x_pha 32 (upd f' e 0), cI K x_gol 32 gol]) rfl ?_
                  refine zx_iinc (pc := 142) hF (v := nI (e + 1)) (lv' := [(3, .int (nI (e + 1))), (0, .ref m0), (1, .int (nI b)), (2, .int (nI (g_asks offm cutm b sN0 0 (ctd, dwn, 0)).2.2))]) d_Mod_probe_142 3 rfl (zinc e) (by decide) rfl ?_
                  refine zx_goto (pc := 145) hF d_Mod_probe_145 (tgt := 96) rfl ?_
                  refine zx_lv [1, 2, 3, 0] (lv' := [(0, .ref m0), (1, .int (nI b)), (2, .int (nI (g_asks offm cutm b sN0 0 (ctd, dwn, 0)).2.2)), (3, .int (nI (e + 1)))]) rfl ?_
                  exact ihE (kE - 1) (e + 1, upd f' e 0) (by omega) ⟨by first | omega | (dsimp only; omega) | dsimp only, by obtain ⟨k', rfl⟩ : ∃ k', kE = k' + 1 := ⟨kE - 1, by omega⟩; simpa [g_purge, h113, h132] using hXE, by first | omega | (dsimp only; omega) | dsimp only⟩
          · replace h86 : (g_asks offm cutm b sN0 0 (ctd, dwn, 0)).2.2 = 0 := (nI_eq (a := (g_asks offm cutm b sN0 0 (ctd, dwn, 0)).2.2) (b := 0) (by omega) (by omega)).mp h86
            exact absurd h86 hc
        · replace h59 : ¬ sN0 ≤ j := fun z => h59 ((nI_leI (a := sN0) (b := j) (by omega) (by omega)).mpr z)
          refine zx_aload_n (pc := 62) hF d_Mod_probe_62 rfl 0 rfl ?_
          refine zx_iload_n (pc := 63) hF d_Mod_probe_63 rfl 1 rfl ?_
          refine zx_iload_n (pc := 64) hF d_Mod_probe_64 rfl 3 rfl ?_
          refine zx_Vi (pc := 65) hF (As := [.int (nI b), .int (nI j)]) (rest := []) (fun sz => M_Mod_ask l D K M m0 bN sN0 pN k0 k1 now x_wd x_beg x_std x_dea x_frm x_alv x_stm x_mov x_dwn x_ctd x_cutm x_pha x_usd x_gol x_esr x_epo x_offm x_ast x_opn x_ssr x_spo x_awa x_dat kpt x_hd by0 to0 rep had ost bst x_inr offm cutm dwn' ctd' b j (by first | assumption | omega) (by first | assumption | omega) (by first | assumption | omega) (by first | assumption | omega) sz) [0, 8, 9, 2, 10] rfl (by decide) (as := [m0, x_offm, x_cutm, x_dwn, x_ctd]) rfl rfl (ws' := [cO m0 11 [.int (nI bN), .int (nI sN0), .int (nI pN), .long k0, .long k1, .int now, .ref x_wd, .ref x_beg, .ref x_std, .ref x_dea, .ref x_frm, .ref x_alv, .ref x_stm, .ref x_mov, .ref x_dwn, .ref x_ctd, .ref x_cutm, .ref x_pha, .ref x_usd, .ref x_gol, .ref x_esr, .ref x_epo, .ref x_offm, .ref x_ast, .ref x_opn, .ref x_ssr, .ref x_spo, .ref x_awa, .ref x_dat, .int kpt, .ref x_hd, .int by0, .int to0, .int rep, .int had, .int ost, .int bst, .ref x_inr], cZ K x_alv 4 alv, cZ K x_dwn 32 (g_ad ctd' dwn' (8 * b + j) (g_meets offm cutm b j)), cI K x_beg 8 beg, cI K x_std 8 std, cI K x_dea 101 (g_deal fN sN pN sN0 (g_sh dwn b) dea), cI K x_frm 101 (g_copy 101 0 (g_deal fN sN pN sN0 (g_sh dwn b) dea) frm), cI K x_mov 4 mov, cZ K x_offm 8 offm, cZ K x_cutm 32 cutm, cI K x_ctd 32 (g_at ctd' dwn' (8 * b + j) (g_meets offm cutm b j)), cI K x_pha 32 pha, cI K x_gol 32 gol]) rfl 0 11 rfl rfl rfl (cw_Mod_199 hF.2.2.2.2.1 rfl rfl ⟨by decide, by decide⟩) rfl rfl (Nat.le_of_ble_eq_true rfl) d_Mod_probe_65 ⟨Nat.zero_le _, Nat.zero_le _⟩ ?_
          refine zx_if_eq (pc := 68) hF d_Mod_probe_68 (tgt := 77) rfl (fun h68 => ?_) (fun h68 => ?_)
          · refine zx_iload_n (pc := 77) hF d_Mod_probe_77 rfl 2 rfl ?_
            refine zx_istore_n (pc := 78) hF (lv' := [(2, .int (nI c)), (0, .ref m0), (1, .int (nI b)), (3, .int (nI j))]) d_Mod_probe_78 rfl (by decide) rfl ?_
            refine zx_iinc (pc := 79) hF (v := nI (j + 1)) (lv' := [(3, .int (nI (j + 1))), (2, .int (nI c)), (0, .ref m0), (1, .int (nI b))]) d_Mod_probe_79 3 rfl (zinc j) (by decide) rfl ?_
            refine zx_goto (pc := 82) hF d_Mod_probe_82 (tgt := 54) rfl ?_
            refine zx_lv [2, 3, 1, 0] (lv' := [(0, .ref m0), (1, .int (nI b)), (2, .int (nI c)), (3, .int (nI (j + 1)))]) rfl ?_
            exact ihC (kC - 1) (j + 1, c, g_at ctd' dwn' (8 * b + j) (g_meets offm cutm b j), g_ad ctd' dwn' (8 * b + j) (g_meets offm cutm b j)) (by omega) ⟨by first | omega | (dsimp only; omega) | dsimp only, by obtain ⟨k', rfl⟩ : ∃ k', kC = k' + 1 := ⟨kC - 1, by omega⟩; simpa [g_asks, h68] using hXC, by first | omega | (dsimp only; omega) | dsimp only⟩
          · refine zx_iload_n (pc := 71) hF d_Mod_probe_71 rfl 2 rfl ?_
            refine zx_iconst (pc := 72) hF d_Mod_probe_72 k_i1 ?_
            refine zx_iadd (pc := 73) hF d_Mod_probe_73 ?_
            refine zx_topi (nI (c + 1)) (nI_add c 1) ?_
            refine zx_goto (pc := 74) hF d_Mod_probe_74 (tgt := 78) rfl ?_
            refine zx_istore_n (pc := 78) hF (lv' := [(2, .int (nI (c + 1))), (0, .ref m0), (1, .int (nI b)), (3, .int (nI j))]) d_Mod_probe_78 rfl (by decide) rfl ?_
            refine zx_iinc (pc := 79) hF (v := nI (j + 1)) (lv' := [(3, .int (nI (j + 1))), (2, .int (nI (c + 1))), (0, .ref m0), (1, .int (nI b))]) d_Mod_probe_79 3 rfl (zinc j) (by decide) rfl ?_
            refine zx_goto (pc := 82) hF d_Mod_probe_82 (tgt := 54) rfl ?_
            refine zx_lv [2, 3, 1, 0] (lv' := [(0, .ref m0), (1, .int (nI b)), (2, .int (nI (c + 1))), (3, .int (nI (j + 1)))]) rfl ?_
            exact ihC (kC - 1) (j + 1, c + 1, g_at ctd' dwn' (8 * b + j) (g_meets offm cutm b j), g_ad ctd' dwn' (8 * b + j) (g_meets offm cutm b j)) (by omega) ⟨by first | omega | (dsimp only; omega) | dsimp only, by obtain ⟨k', rfl⟩ : ∃ k', kC = k' + 1 := ⟨kC - 1, by omega⟩; simpa [g_asks, h68] using hXC, by first | omega | (dsimp only; omega) | dsimp only⟩
      · replace h29 : ¬ 101 ≤ j := fun z => h29 ((nI_leI (a := 101) (b := j) (by omega) (by omega)).mpr z)
        refine zx_aload_n (pc := 32) hF d_Mod_probe_32 rfl 0 rfl ?_
        refine zg_Mod_23 (pc := 33) hF 0 rfl rfl d_Mod_probe_33 ?_
        refine zx_iload_n (pc := 36) hF d_Mod_probe_36 rfl 2 rfl ?_
        refine zx_aload_n (pc := 37) hF d_Mod_probe_37 rfl 0 rfl ?_
        refine zg_Mod_20 (pc := 38) hF 0 rfl rfl d_Mod_probe_38 ?_
        refine zx_iload_n (pc := 41) hF d_Mod_probe_41 rfl 2 rfl ?_
        refine zx_ialdn (pc := 42) hF (i := j) 5 rfl (by omega) (by omega) d_Mod_probe_42 ?_
        refine zx_iastn (pc := 43) hF (i := j) 6 rfl (by omega) (by omega) d_Mod_probe_43 (ws' := [cO m0 11 [.int (nI bN), .int (nI sN0), .int (nI pN), .long k0, .long k1, .int now, .ref x_wd, .ref x_beg, .ref x_std, .ref x_dea, .ref x_frm, .ref x_alv, .ref x_stm, .ref x_mov, .ref x_dwn, .ref x_ctd, .ref x_cutm, .ref x_pha, .ref x_usd, .ref x_gol, .ref x_esr, .ref x_epo, .ref x_offm, .ref x_ast, .ref x_opn, .ref x_ssr, .ref x_spo, .ref x_awa, .ref x_dat, .int kpt, .ref x_hd, .int by0, .int to0, .int rep, .int had, .int ost, .int bst, .ref x_inr], cZ K x_alv 4 alv, cZ K x_dwn 32 dwn, cI K x_beg 8 beg, cI K x_std 8 std, cI K x_dea 101 (g_deal fN sN pN sN0 (g_sh dwn b) dea), cI K x_frm 101 (upd f' j ((g_deal fN sN pN sN0 (g_sh dwn b) dea) j)), cI K x_mov 4 mov, cZ K x_offm 8 offm, cZ K x_cutm 32 cutm, cI K x_ctd 32 ctd, cI K x_pha 32 pha, cI K x_gol 32 gol]) rfl ?_
        refine zx_iinc (pc := 44) hF (v := nI (j + 1)) (lv' := [(2, .int (nI (j + 1))), (0, .ref m0), (1, .int (nI b))]) d_Mod_probe_44 2 rfl (zinc j) (by decide) rfl ?_
        refine zx_goto (pc := 47) hF d_Mod_probe_47 (tgt := 26) rfl ?_
        refine zx_lv [1, 2, 0] (lv' := [(0, .ref m0), (1, .int (nI b)), (2, .int (nI (j + 1)))]) rfl ?_
        exact ihA (kA - 1) (j + 1, upd f' j ((g_deal fN sN pN sN0 (g_sh dwn b) dea) j)) (by omega) ⟨by first | omega | (dsimp only; omega) | dsimp only, by obtain ⟨k', rfl⟩ : ∃ k', kA = k' + 1 := ⟨kA - 1, by omega⟩; exact hXA⟩
    · exact absurd h14 hd
