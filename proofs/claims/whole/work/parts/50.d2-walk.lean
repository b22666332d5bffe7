set_option maxRecDepth 20000 in
theorem M_Mod_deal (l : Launch) (D : va_G) (K : Nat → ClassId) (M : List (ClassId × FieldType)) (m0 : Nat) (bN : Nat) (sN0 : Nat) (pN : Nat) (k0 : Int64) (k1 : Int64) (now : Int32) (x_wd : Nat) (x_beg : Nat) (x_std : Nat) (x_dea : Nat) (x_frm : Nat) (x_alv : Nat) (x_stm : Nat) (x_mov : Nat) (x_dwn : Nat) (x_ctd : Nat) (x_cutm : Nat) (x_pha : Nat) (x_usd : Nat) (x_gol : Nat) (x_esr : Nat) (x_epo : Nat) (x_offm : Nat) (x_ast : Nat) (x_opn : Nat) (x_ssr : Nat) (x_spo : Nat) (x_awa : Nat) (x_dat : Nat) (kpt : Int32) (x_hd : Nat) (by0 : Int32) (to0 : Int32) (rep : Int32) (had : Int32) (ost : Int32) (bst : Int32) (x_inr : Nat) (dwn : Nat → Int32) (beg : Nat → Int32) (std : Nat → Int32) (dea : Nat → Int32) (fN : Nat → Nat) (sN : Nat → Nat) (b : Nat) (hB : bN ≤ 4) (hS : 0 < sN0 ∧ sN0 ≤ 8) (hb : b < bN) (hP : 0 < pN ∧ pN ≤ 101) (hL : f_LN beg std fN sN pN sN0) (sz : Nat) : zM l y_Mod_deal (zT y_Mod_deal b_Mod_deal 6 none) (zR 1 23) 0 0 D K M [.ref m0, .int (nI b)] [cO m0 11 [.int (nI bN), .int (nI sN0), .int (nI pN), .long k0, .long k1, .int now, .ref x_wd, .ref x_beg, .ref x_std, .ref x_dea, .ref x_frm, .ref x_alv, .ref x_stm, .ref x_mov, .ref x_dwn, .ref x_ctd, .ref x_cutm, .ref x_pha, .ref x_usd, .ref x_gol, .ref x_esr, .ref x_epo, .ref x_offm, .ref x_ast, .ref x_opn, .ref x_ssr, .ref x_spo, .ref x_awa, .ref x_dat, .int kpt, .ref x_hd, .int by0, .int to0, .int rep, .int had, .int ost, .int bst, .ref x_inr], cZ K x_dwn 32 dwn, cI K x_beg 8 beg, cI K x_std 8 std, cI K x_dea 101 dea] sz (zQv D K M [cO m0 11 [.int (nI bN), .int (nI sN0), .int (nI pN), .long k0, .long k1, .int now, .ref x_wd, .ref x_beg, .ref x_std, .ref x_dea, .ref x_frm, .ref x_alv, .ref x_stm, .ref x_mov, .ref x_dwn, .ref x_ctd, .ref x_cutm, .ref x_pha, .ref x_usd, .ref x_gol, .ref x_esr, .ref x_epo, .ref x_offm, .ref x_ast, .ref x_opn, .ref x_ssr, .ref x_spo, .ref x_awa, .ref x_dat, .int kpt, .ref x_hd, .int by0, .int to0, .int rep, .int had, .int ost, .int bst, .ref x_inr], cZ K x_dwn 32 dwn, cI K x_beg 8 beg, cI K x_std 8 std, cI K x_dea 101 (g_deal fN sN pN sN0 (g_sh dwn b) dea)]) := by
  refine zx_head (by decide) (Nat.le_of_ble_eq_true rfl) ?_
  intro _ _ _ _ _ _ _ _ _ hF hr hlk hnm
  refine zx_iconst (pc := 0) hF d_Mod_deal_0 k_i0 ?_
  refine zx_istore_n (pc := 1) hF (lv' := [(2, .int 0), (0, .ref m0), (1, .int (nI b))]) d_Mod_deal_1 rfl (by decide) rfl ?_
  refine zx_lv [1, 2, 0] (lv' := [(0, .ref m0), (1, .int (nI b)), (2, .int 0)]) rfl ?_
  refine zx_loop (pc := 2) (σ := Nat × (Nat → Int32)) (fun kz zv => (zv.1 + kz = 101) ∧ (f_fill kz zv.1 (-1) zv.2 = f_fill 101 0 (-1) dea)) (fun zv => [cO m0 11 [.int (nI bN), .int (nI sN0), .int (nI pN), .long k0, .long k1, .int now, .ref x_wd, .ref x_beg, .ref x_std, .ref x_dea, .ref x_frm, .ref x_alv, .ref x_stm, .ref x_mov, .ref x_dwn, .ref x_ctd, .ref x_cutm, .ref x_pha, .ref x_usd, .ref x_gol, .ref x_esr, .ref x_epo, .ref x_offm, .ref x_ast, .ref x_opn, .ref x_ssr, .ref x_spo, .ref x_awa, .ref x_dat, .int kpt, .ref x_hd, .int by0, .int to0, .int rep, .int had, .int ost, .int bst, .ref x_inr], cZ K x_dwn 32 dwn, cI K x_beg 8 beg, cI K x_std 8 std, cI K x_dea 101 zv.2]) (fun zv => [(0, .ref m0), (1, .int (nI b)), (2, .int (nI zv.1))]) 101 (0, dea) ⟨rfl, rfl⟩ rfl rfl ?_
  intro kz zv hI ih0
  obtain ⟨j, d'⟩ := zv
  obtain ⟨hk0, hX0⟩ := hI
  replace hk0 : j + kz = 101 := hk0
  replace hX0 : f_fill kz j (-1) d' = f_fill 101 0 (-1) dea := hX0
  refine zx_eq (ws' := [cO m0 11 [.int (nI bN), .int (nI sN0), .int (nI pN), .long k0, .long k1, .int now, .ref x_wd, .ref x_beg, .ref x_std, .ref x_dea, .ref x_frm, .ref x_alv, .ref x_stm, .ref x_mov, .ref x_dwn, .ref x_ctd, .ref x_cutm, .ref x_pha, .ref x_usd, .ref x_gol, .ref x_esr, .ref x_epo, .ref x_offm, .ref x_ast, .ref x_opn, .ref x_ssr, .ref x_spo, .ref x_awa, .ref x_dat, .int kpt, .ref x_hd, .int by0, .int to0, .int rep, .int had, .int ost, .int bst, .ref x_inr], cZ K x_dwn 32 dwn, cI K x_beg 8 beg, cI K x_std 8 std, cI K x_dea 101 d']) (lv' := [(0, .ref m0), (1, .int (nI b)), (2, .int (nI j))]) rfl rfl rfl ?_
  refine zx_iload_n (pc := 2) hF d_Mod_deal_2 rfl 2 rfl ?_
  refine zx_bipush (pc := 3) hF d_Mod_deal_3 k_b101 ?_
  refine zx_icmp_ge (pc := 5) hF d_Mod_deal_5 (tgt := 21) rfl (fun h5 => ?_) (fun h5 => ?_)
  · replace h5 : 101 ≤ j := (nI_leI (a := 101) (b := j) (by omega) (by omega)).mp h5
    refine zx_aload_n (pc := 21) hF d_Mod_deal_21 rfl 0 rfl ?_
    refine zx_iload_n (pc := 22) hF d_Mod_deal_22 rfl 1 rfl ?_
    refine zx_Vi (pc := 23) hF (As := [.int (nI b)]) (rest := []) (fun sz => M_Mod_ups l D K M m0 bN sN0 pN k0 k1 now x_wd x_beg x_std x_dea x_frm x_alv x_stm x_mov x_dwn x_ctd x_cutm x_pha x_usd x_gol x_esr x_epo x_offm x_ast x_opn x_ssr x_spo x_awa x_dat kpt x_hd by0 to0 rep had ost bst x_inr dwn b (by first | assumption | omega) (by first | assumption | omega) (by first | assumption | omega) sz) [0, 1] rfl (by decide) (as := [m0, x_dwn]) rfl rfl (ws' := [cO m0 11 [.int (nI bN), .int (nI sN0), .int (nI pN), .long k0, .long k1, .int now, .ref x_wd, .ref x_beg, .ref x_std, .ref x_dea, .ref x_frm, .ref x_alv, .ref x_stm, .ref x_mov, .ref x_dwn, .ref x_ctd, .ref x_cutm, .ref x_pha, .ref x_usd, .ref x_gol, .ref x_esr, .ref x_epo, .ref x_offm, .ref x_ast, .ref x_opn, .ref x_ssr, .ref x_spo, .ref x_awa, .ref x_dat, .int kpt, .ref x_hd, .int by0, .int to0, .int rep, .int had, .int ost, .int bst, .ref x_inr], cZ K x_dwn 32 dwn, cI K x_beg 8 beg, cI K x_std 8 std, cI K x_dea 101 d']) rfl 0 11 rfl rfl rfl (cw_Mod_180 hF.2.2.2.2.1 rfl rfl ⟨by decide, by decide⟩) rfl rfl (Nat.le_of_ble_eq_true rfl) d_Mod_deal_23 ⟨Nat.zero_le _, Nat.zero_le _⟩ ?_
    refine zx_if_ne (pc := 26) hF d_Mod_deal_26 (tgt := 33) rfl (fun h26 => ?_) (fun h26 => ?_)
    · replace h26 : ¬ (g_ups (g_sh dwn b) sN0) = 0 := fun z => h26 ((nI_eq (a := g_ups (g_sh dwn b) sN0) (b := 0) (Nat.lt_of_le_of_lt (g_ups_le _ _) (by omega)) (by omega)).mpr z)
      refine zx_aload_n (pc := 33) hF d_Mod_deal_33 rfl 0 rfl ?_
      refine zg_Mod_107 (pc := 34) hF 0 rfl rfl d_Mod_deal_34 ?_
      refine zx_istore_n (pc := 37) hF (lv' := [(2, .int (nI pN)), (0, .ref m0), (1, .int (nI b))]) d_Mod_deal_37 rfl (by decide) rfl ?_
      refine zx_iconst (pc := 38) hF d_Mod_deal_38 k_i0 ?_
      refine zx_istore_n (pc := 39) hF (lv' := [(3, .int 0), (2, .int (nI pN)), (0, .ref m0), (1, .int (nI b))]) d_Mod_deal_39 rfl (by decide) rfl ?_
      refine zx_lv [2, 3, 1, 0] (lv' := [(0, .ref m0), (1, .int (nI b)), (2, .int (nI pN)), (3, .int 0)]) rfl ?_
      refine zx_loop (pc := 40) (σ := Nat × Nat × (Nat → Int32)) (fun k zv => (zv.1 + k = 1000) ∧ (zv.2.1 ≤ 101) ∧ (g_loop fN sN pN sN0 (g_sh dwn b) k zv.1 zv.2.1 zv.2.2 = g_deal fN sN pN sN0 (g_sh dwn b) dea)) (fun zv => [cO m0 11 [.int (nI bN), .int (nI sN0), .int (nI pN), .long k0, .long k1, .int now, .ref x_wd, .ref x_beg, .ref x_std, .ref x_dea, .ref x_frm, .ref x_alv, .ref x_stm, .ref x_mov, .ref x_dwn, .ref x_ctd, .ref x_cutm, .ref x_pha, .ref x_usd, .ref x_gol, .ref x_esr, .ref x_epo, .ref x_offm, .ref x_ast, .ref x_opn, .ref x_ssr, .ref x_spo, .ref x_awa, .ref x_dat, .int kpt, .ref x_hd, .int by0, .int to0, .int rep, .int had, .int ost, .int bst, .ref x_inr], cZ K x_dwn 32 dwn, cI K x_beg 8 beg, cI K x_std 8 std, cI K x_dea 101 zv.2.2]) (fun zv => [(0, .ref m0), (1, .int (nI b)), (2, .int (nI zv.2.1)), (3, .int (nI zv.1))]) 1000 (0, pN, d') ⟨rfl, by first | omega | (dsimp only; omega) | dsimp only, by obtain rfl : kz = 0 := (by omega); unfold g_deal g_lf; simp only [h26, ↓reduceIte]; rw [← hX0]; rfl⟩ rfl rfl ?_
      intro k zv hI ih
      obtain ⟨t, lf, d'⟩ := zv
      obtain ⟨hk, hl, hX⟩ := hI
      replace hk : t + k = 1000 := hk
      replace hl : lf ≤ 101 := hl
      replace hX : g_loop fN sN pN sN0 (g_sh dwn b) k t lf d' = g_deal fN sN pN sN0 (g_sh dwn b) dea := hX
      refine zx_eq (ws' := [cO m0 11 [.int (nI bN), .int (nI sN0), .int (nI pN), .long k0, .long k1, .int now, .ref x_wd, .ref x_beg, .ref x_std, .ref x_dea, .ref x_frm, .ref x_alv, .ref x_stm, .ref x_mov, .ref x_dwn, .ref x_ctd, .ref x_cutm, .ref x_pha, .ref x_usd, .ref x_gol, .ref x_esr, .ref x_epo, .ref x_offm, .ref x_ast, .ref x_opn, .ref x_ssr, .ref x_spo, .ref x_awa, .ref x_dat, .int kpt, .ref x_hd, .int by0, .int to0, .int rep, .int had, .int ost, .int bst, .ref x_inr], cZ K x_dwn 32 dwn, cI K x_beg 8 beg, cI K x_std 8 std, cI K x_dea 101 d']) (lv' := [(0, .ref m0), (1, .int (nI b)), (2, .int (nI lf)), (3, .int (nI t))]) rfl rfl rfl ?_
      refine zx_iload_n (pc := 40) hF d_Mod_deal_40 rfl 3 rfl ?_
      refine zx_sipush (pc := 41) hF d_Mod_deal_41 k_s1000 ?_
      refine zx_icmp_ge (pc := 44) hF d_Mod_deal_44 (tgt := 110) rfl (fun h44 => ?_) (fun h44 => ?_)
      · replace h44 : 1000 ≤ t := (nI_leI (a := 1000) (b := t) (by omega) (by omega)).mp h44
        exact zx_vret (pc := 110) hF hr hlk (by obtain rfl : k = 0 := (by omega); rw [← hX]; rfl) d_Mod_deal_110
      · replace h44 : ¬ 1000 ≤ t := fun z => h44 ((nI_leI (a := 1000) (b := t) (by omega) (by omega)).mpr z)
        refine zx_iload_n (pc := 47) hF d_Mod_deal_47 rfl 2 rfl ?_
        refine zx_if_le (pc := 48) hF d_Mod_deal_48 (tgt := 110) rfl (fun h48 => ?_) (fun h48 => ?_)
        · replace h48 : lf ≤ 0 := (nI_leI (a := lf) (b := 0) (by omega) (by omega)).mp h48
          exact zx_vret (pc := 110) hF hr hlk (by obtain ⟨k', rfl⟩ : ∃ k', k = k' + 1 := ⟨k - 1, by omega⟩; simp only [g_loop] at hX; rw [if_pos (by omega)] at hX; rw [← hX]) d_Mod_deal_110
        · replace h48 : ¬ lf ≤ 0 := fun z => h48 ((nI_leI (a := lf) (b := 0) (by omega) (by omega)).mpr z)
          refine zx_iload_n (pc := 51) hF d_Mod_deal_51 rfl 3 rfl ?_
          refine zx_aload_n (pc := 52) hF d_Mod_deal_52 rfl 0 rfl ?_
          refine zg_Mod_104 (pc := 53) hF 0 rfl rfl d_Mod_deal_53 ?_
          refine zx_irem (pc := 56) hF d_Mod_deal_56 (nI_ne0 hS.1 (by omega)) ?_
          refine zx_topi (nI (t % sN0)) (pk_rem (a := t) (d := sN0) (by omega) (by omega) (by omega)) ?_
          refine zx_istore (pc := 57) hF (lv' := [(4, .int (nI (t % sN0))), (0, .ref m0), (1, .int (nI b)), (2, .int (nI lf)), (3, .int (nI t))]) d_Mod_deal_57 (by decide) rfl ?_
          refine zx_aload_n (pc := 59) hF d_Mod_deal_59 rfl 1 rfl ?_
          refine zg_Mod_36 (pc := 60) hF 0 rfl rfl d_Mod_deal_60 ?_
          refine zx_bipush (pc := 63) hF d_Mod_deal_63 k_b8 ?_
          refine zx_iload_n (pc := 65) hF d_Mod_deal_65 rfl 2 rfl ?_
          refine zx_imul (pc := 66) hF d_Mod_deal_66 ?_
          refine zx_topi (nI (8 * b)) (pk_mul 8 b) ?_
          refine zx_iload (pc := 67) hF d_Mod_deal_67 0 rfl ?_
          refine zx_iadd (pc := 69) hF d_Mod_deal_69 ?_
          refine zx_topi (nI ((8 * b) + (t % sN0))) (nI_add (8 * b) (t % sN0)) ?_
          refine zx_zaldn (pc := 70) hF (i := (8 * b) + (t % sN0)) 1 rfl (by have := Nat.mod_lt t hS.1; omega) (by omega) d_Mod_deal_70 ?_
          refine zx_if_ne (pc := 71) hF d_Mod_deal_71 (tgt := 104) rfl (fun h71 => ?_) (fun h71 => ?_)
          · refine zx_iinc (pc := 104) hF (v := nI (t + 1)) (lv' := [(3, .int (nI (t + 1))), (4, .int (nI (t % sN0))), (0, .ref m0), (1, .int (nI b)), (2, .int (nI lf))]) d_Mod_deal_104 4 rfl (zinc t) (by decide) rfl ?_
            refine zx_goto (pc := 107) hF d_Mod_deal_107 (tgt := 40) rfl ?_
            refine zx_lv [2, 3, 4, 0] (lv' := [(0, .ref m0), (1, .int (nI b)), (2, .int (nI lf)), (3, .int (nI (t + 1)))]) rfl ?_
            exact ih (k - 1) (t + 1, lf, d') (by omega) ⟨by first | omega | (dsimp only; omega) | dsimp only, by first | omega | (dsimp only; omega) | dsimp only, by obtain ⟨k', rfl⟩ : ∃ k', k = k' + 1 := ⟨k - 1, by omega⟩; simpa [g_loop, g_one, g_sh, (show ¬ lf = 0 by omega), h71] using hX⟩
          · refine zx_iload_n (pc := 74) hF d_Mod_deal_74 rfl 3 rfl ?_
            refine zx_if_le (pc := 75) hF d_Mod_deal_75 (tgt := 104) rfl (fun h75 => ?_) (fun h75 => ?_)
            · replace h75 : lf ≤ 0 := (nI_leI (a := lf) (b := 0) (by omega) (by omega)).mp h75
              exact absurd h75 h48
            · replace h75 : ¬ lf ≤ 0 := fun z => h75 ((nI_leI (a := lf) (b := 0) (by omega) (by omega)).mpr z)
              refine zx_aload_n (pc := 78) hF d_Mod_deal_78 rfl 1 rfl ?_
              refine zx_iload (pc := 79) hF d_Mod_deal_79 0 rfl ?_
              refine zx_Vi (pc := 81) hF (As := [.int (nI (t % sN0))]) (rest := []) (fun sz => M_Mod_wish l D K M m0 bN sN0 pN k0 k1 now x_wd x_beg x_std x_dea x_frm x_alv x_stm x_mov x_dwn x_ctd x_cutm x_pha x_usd x_gol x_esr x_epo x_offm x_ast x_opn x_ssr x_spo x_awa x_dat kpt x_hd by0 to0 rep had ost bst x_inr beg std d' fN sN (t % sN0) (by first | assumption | omega) (by first | assumption | omega) (by first | assumption | omega) (by first | assumption | omega) (Nat.mod_lt _ hS.1) sz) [0, 2, 3, 4] rfl (by decide) (as := [m0, x_beg, x_std, x_dea]) rfl rfl (ws' := [cO m0 11 [.int (nI bN), .int (nI sN0), .int (nI pN), .long k0, .long k1, .int now, .ref x_wd, .ref x_beg, .ref x_std, .ref x_dea, .ref x_frm, .ref x_alv, .ref x_stm, .ref x_mov, .ref x_dwn, .ref x_ctd, .ref x_cutm, .ref x_pha, .ref x_usd, .ref x_gol, .ref x_esr, .ref x_epo, .ref x_offm, .ref x_ast, .ref x_opn, .ref x_ssr, .ref x_spo, .ref x_awa, .ref x_dat, .int kpt, .ref x_hd, .int by0, .int to0, .int rep, .int had, .int ost, .int bst, .ref x_inr], cZ K x_dwn 32 dwn, cI K x_beg 8 beg, cI K x_std 8 std, cI K x_dea 101 d']) rfl 0 11 rfl rfl rfl (cw_Mod_183 hF.2.2.2.2.1 rfl rfl ⟨by decide, by decide⟩) rfl rfl (Nat.le_of_ble_eq_true rfl) d_Mod_deal_81 ⟨Nat.zero_le _, Nat.zero_le _⟩ ?_
              refine zx_istore (pc := 84) hF (lv' := [(5, .int (g_wish d' (f_pl fN sN pN (t % sN0)) pN 0)), (4, .int (nI (t % sN0))), (0, .ref m0), (1, .int (nI b)), (2, .int (nI lf)), (3, .int (nI t))]) d_Mod_deal_84 (by decide) rfl ?_
              refine zx_iload (pc := 86) hF d_Mod_deal_86 0 rfl ?_
              refine zx_if_lt (pc := 88) hF d_Mod_deal_88 (tgt := 100) rfl (fun h88 => ?_) (fun h88 => ?_)
              · refine zx_iload_n (pc := 100) hF d_Mod_deal_100 rfl 4 rfl ?_
                refine zx_iconst (pc := 101) hF d_Mod_deal_101 k_i1 ?_
                refine zx_isub (pc := 102) hF d_Mod_deal_102 ?_
                refine zx_topi (nI (lf - 1)) (pk_sub (a := lf) (b := 1) (by omega)) ?_
                refine zx_istore_n (pc := 103) hF (lv' := [(2, .int (nI (lf - 1))), (5, .int (g_wish d' (f_pl fN sN pN (t % sN0)) pN 0)), (4, .int (nI (t % sN0))), (0, .ref m0), (1, .int (nI b)), (3, .int (nI t))]) d_Mod_deal_103 rfl (by decide) rfl ?_
                refine zx_iinc (pc := 104) hF (v := nI (t + 1)) (lv' := [(3, .int (nI (t + 1))), (2, .int (nI (lf - 1))), (5, .int (g_wish d' (f_pl fN sN pN (t % sN0)) pN 0)), (4, .int (nI (t % sN0))), (0, .ref m0), (1, .int (nI b))]) d_Mod_deal_104 5 rfl (zinc t) (by decide) rfl ?_
                refine zx_goto (pc := 107) hF d_Mod_deal_107 (tgt := 40) rfl ?_
                refine zx_lv [4, 5, 1, 0] (lv' := [(0, .ref m0), (1, .int (nI b)), (2, .int (nI (lf - 1))), (3, .int (nI (t + 1)))]) rfl ?_
                exact ih (k - 1) (t + 1, lf - 1, d') (by omega) ⟨by first | omega | (dsimp only; omega) | dsimp only, by first | omega | (dsimp only; omega) | dsimp only, by obtain ⟨k', rfl⟩ : ∃ k', k = k' + 1 := ⟨k - 1, by omega⟩; simpa [g_loop, g_one, g_sh, (show ¬ lf = 0 by omega), h71, h88] using hX⟩
              · refine zx_aload_n (pc := 91) hF d_Mod_deal_91 rfl 2 rfl ?_
                refine zg_Mod_20 (pc := 92) hF 0 rfl rfl d_Mod_deal_92 ?_
                refine zx_iload (pc := 95) hF d_Mod_deal_95 0 rfl ?_
                refine zx_iload (pc := 97) hF d_Mod_deal_97 1 rfl ?_
                refine zx_iast (pc := 99) hF 4 rfl (g_wish_in (by omega) (fun i => Nat.lt_of_lt_of_le (f_pl_lt hP.1) hP.2) _ _ h88) d_Mod_deal_99 (ws' := [cO m0 11 [.int (nI bN), .int (nI sN0), .int (nI pN), .long k0, .long k1, .int now, .ref x_wd, .ref x_beg, .ref x_std, .ref x_dea, .ref x_frm, .ref x_alv, .ref x_stm, .ref x_mov, .ref x_dwn, .ref x_ctd, .ref x_cutm, .ref x_pha, .ref x_usd, .ref x_gol, .ref x_esr, .ref x_epo, .ref x_offm, .ref x_ast, .ref x_opn, .ref x_ssr, .ref x_spo, .ref x_awa, .ref x_dat, .int kpt, .ref x_hd, .int by0, .int to0, .int rep, .int had, .int ost, .int bst, .ref x_inr], cZ K x_dwn 32 dwn, cI K x_beg 8 beg, cI K x_std 8 std, cI K x_dea 101 (upd d' (Int32.toNatClampNeg (g_wish d' (f_pl fN sN pN (t % sN0)) pN 0)) (nI (t % sN0)))]) rfl ?_
                refine zx_iload_n (pc := 100) hF d_Mod_deal_100 rfl 4 rfl ?_
                refine zx_iconst (pc := 101) hF d_Mod_deal_101 k_i1 ?_
                refine zx_isub (pc := 102) hF d_Mod_deal_102 ?_
                refine zx_topi (nI (lf - 1)) (pk_sub (a := lf) (b := 1) (by omega)) ?_
                refine zx_istore_n (pc := 103) hF (lv' := [(2, .int (nI (lf - 1))), (5, .int (g_wish d' (f_pl fN sN pN (t % sN0)) pN 0)), (4, .int (nI (t % sN0))), (0, .ref m0), (1, .int (nI b)), (3, .int (nI t))]) d_Mod_deal_103 rfl (by decide) rfl ?_
                refine zx_iinc (pc := 104) hF (v := nI (t + 1)) (lv' := [(3, .int (nI (t + 1))), (2, .int (nI (lf - 1))), (5, .int (g_wish d' (f_pl fN sN pN (t % sN0)) pN 0)), (4, .int (nI (t % sN0))), (0, .ref m0), (1, .int (nI b))]) d_Mod_deal_104 5 rfl (zinc t) (by decide) rfl ?_
                refine zx_goto (pc := 107) hF d_Mod_deal_107 (tgt := 40) rfl ?_
                refine zx_lv [4, 5, 1, 0] (lv' := [(0, .ref m0), (1, .int (nI b)), (2, .int (nI (lf - 1))), (3, .int (nI (t + 1)))]) rfl ?_
                exact ih (k - 1) (t + 1, lf - 1, upd d' (Int32.toNatClampNeg (g_wish d' (f_pl fN sN pN (t % sN0)) pN 0)) (nI (t % sN0))) (by omega) ⟨by first | omega | (dsimp only; omega) | dsimp only, by first | omega | (dsimp only; omega) | dsimp only, by obtain ⟨k', rfl⟩ : ∃ k', k = k' + 1 := ⟨k - 1, by omega⟩; simpa [g_loop, g_one, g_sh, (show ¬ lf = 0 by omega), h71, h88] using hX⟩
    · replace h26 : (g_ups (g_sh dwn b) sN0) = 0 := (nI_eq (a := g_ups (g_sh dwn b) sN0) (b := 0) (Nat.lt_of_le_of_lt (g_ups_le _ _) (by omega)) (by omega)).mp h26
      refine zx_iconst (pc := 29) hF d_Mod_deal_29 k_i0 ?_
      refine zx_goto (pc := 30) hF d_Mod_deal_30 (tgt := 37) rfl ?_
      refine zx_istore_n (pc := 37) hF (lv' := [(2, .int 0), (0, .ref m0), (1, .int (nI b))]) d_Mod_deal_37 rfl (by decide) rfl ?_
      refine zx_iconst (pc := 38) hF d_Mod_deal_38 k_i0 ?_
      refine zx_istore_n (pc := 39) hF (lv' := [(3, .int 0), (2, .int 0), (0, .ref m0), (1, .int (nI b))]) d_Mod_deal_39 rfl (by decide) rfl ?_
      refine zx_lv [2, 3, 1, 0] (lv' := [(0, .ref m0), (1, .int (nI b)), (2, .int 0), (3, .int 0)]) rfl ?_
      refine zx_loop (pc := 40) (σ := Nat × Nat × (Nat → Int32)) (fun k zv => (zv.1 + k = 1000) ∧ (zv.2.1 ≤ 101) ∧ (g_loop fN sN pN sN0 (g_sh dwn b) k zv.1 zv.2.1 zv.2.2 = g_deal fN sN pN sN0 (g_sh dwn b) dea)) (fun zv => [cO m0 11 [.int (nI bN), .int (nI sN0), .int (nI pN), .long k0, .long k1, .int now, .ref x_wd, .ref x_beg, .ref x_std, .ref x_dea, .ref x_frm, .ref x_alv, .ref x_stm, .ref x_mov, .ref x_dwn, .ref x_ctd, .ref x_cutm, .ref x_pha, .ref x_usd, .ref x_gol, .ref x_esr, .ref x_epo, .ref x_offm, .ref x_ast, .ref x_opn, .ref x_ssr, .ref x_spo, .ref x_awa, .ref x_dat, .int kpt, .ref x_hd, .int by0, .int to0, .int rep, .int had, .int ost, .int bst, .ref x_inr], cZ K x_dwn 32 dwn, cI K x_beg 8 beg, cI K x_std 8 std, cI K x_dea 101 zv.2.2]) (fun zv => [(0, .ref m0), (1, .int (nI b)), (2, .int (nI zv.2.1)), (3, .int (nI zv.1))]) 1000 (0, 0, d') ⟨rfl, by first | omega | (dsimp only; omega) | dsimp only, by obtain rfl : kz = 0 := (by omega); unfold g_deal g_lf; simp only [h26, ↓reduceIte]; rw [← hX0]; rfl⟩ rfl rfl ?_
      intro k zv hI ih
      obtain ⟨t, lf, d'⟩ := zv
      obtain ⟨hk, hl, hX⟩ := hI
      replace hk : t + k = 1000 := hk
      replace hl : lf ≤ 101 := hl
      replace hX : g_loop fN sN pN sN0 (g_sh dwn b) k t lf d' = g_deal fN sN pN sN0 (g_sh dwn b) dea := hX
      refine zx_eq (ws' := [cO m0 11 [.int (nI bN), .int (nI sN0), .int (nI pN), .long k0, .long k1, .int now, .ref x_wd, .ref x_beg, .ref x_std, .ref x_dea, .ref x_frm, .ref x_alv, .ref x_stm, .ref x_mov, .ref x_dwn, .ref x_ctd, .ref x_cutm, .ref x_pha, .ref x_usd, .ref x_gol, .ref x_esr, .ref x_epo, .ref x_offm, .ref x_ast, .ref x_opn, .ref x_ssr, .ref x_spo, .ref x_awa, .ref x_dat, .int kpt, .ref x_hd, .int by0, .int to0, .int rep, .int had, .int ost, .int bst, .ref x_inr], cZ K x_dwn 32 dwn, cI K x_beg 8 beg, cI K x_std 8 std, cI K x_dea 101 d']) (lv' := [(0, .ref m0), (1, .int (nI b)), (2, .int (nI lf)), (3, .int (nI t))]) rfl rfl rfl ?_
      refine zx_iload_n (pc := 40) hF d_Mod_deal_40 rfl 3 rfl ?_
      refine zx_sipush (pc := 41) hF d_Mod_deal_41 k_s1000 ?_
      refine zx_icmp_ge (pc := 44) hF d_Mod_deal_44 (tgt := 110) rfl (fun h44 => ?_) (fun h44 => ?_)
      · replace h44 : 1000 ≤ t := (nI_leI (a := 1000) (b := t) (by omega) (by omega)).mp h44
        exact zx_vret (pc := 110) hF hr hlk (by obtain rfl : k = 0 := (by omega); rw [← hX]; rfl) d_Mod_deal_110
      · replace h44 : ¬ 1000 ≤ t := fun z => h44 ((nI_leI (a := 1000) (b := t) (by omega) (by omega)).mpr z)
        refine zx_iload_n (pc := 47) hF d_Mod_deal_47 rfl 2 rfl ?_
        refine zx_if_le (pc := 48) hF d_Mod_deal_48 (tgt := 110) rfl (fun h48 => ?_) (fun h48 => ?_)
        · replace h48 : lf ≤ 0 := (nI_leI (a := lf) (b := 0) (by omega) (by omega)).mp h48
          exact zx_vret (pc := 110) hF hr hlk (by obtain ⟨k', rfl⟩ : ∃ k', k = k' + 1 := ⟨k - 1, by omega⟩; simp only [g_loop] at hX; rw [if_pos (by omega)] at hX; rw [← hX]) d_Mod_deal_110
        · replace h48 : ¬ lf ≤ 0 := fun z => h48 ((nI_leI (a := lf) (b := 0) (by omega) (by omega)).mpr z)
          refine zx_iload_n (pc := 51) hF d_Mod_deal_51 rfl 3 rfl ?_
          refine zx_aload_n (pc := 52) hF d_Mod_deal_52 rfl 0 rfl ?_
          refine zg_Mod_104 (pc := 53) hF 0 rfl rfl d_Mod_deal_53 ?_
          refine zx_irem (pc := 56) hF d_Mod_deal_56 (nI_ne0 hS.1 (by omega)) ?_
          refine zx_topi (nI (t % sN0)) (pk_rem (a := t) (d := sN0) (by omega) (by omega) (by omega)) ?_
          refine zx_istore (pc := 57) hF (lv' := [(4, .int (nI (t % sN0))), (0, .ref m0), (1, .int (nI b)), (2, .int (nI lf)), (3, .int (nI t))]) d_Mod_deal_57 (by decide) rfl ?_
          refine zx_aload_n (pc := 59) hF d_Mod_deal_59 rfl 1 rfl ?_
          refine zg_Mod_36 (pc := 60) hF 0 rfl rfl d_Mod_deal_60 ?_
          refine zx_bipush (pc := 63) hF d_Mod_deal_63 k_b8 ?_
          refine zx_iload_n (pc := 65) hF d_Mod_deal_65 rfl 2 rfl ?_
          refine zx_imul (pc := 66) hF d_Mod_deal_66 ?_
          refine zx_topi (nI (8 * b)) (pk_mul 8 b) ?_
          refine zx_iload (pc := 67) hF d_Mod_deal_67 0 rfl ?_
          refine zx_iadd (pc := 69) hF d_Mod_deal_69 ?_
          refine zx_topi (nI ((8 * b) + (t % sN0))) (nI_add (8 * b) (t % sN0)) ?_
          refine zx_zaldn (pc := 70) hF (i := (8 * b) + (t % sN0)) 1 rfl (by have := Nat.mod_lt t hS.1; omega) (by omega) d_Mod_deal_70 ?_
          refine zx_if_ne (pc := 71) hF d_Mod_deal_71 (tgt := 104) rfl (fun h71 => ?_) (fun h71 => ?_)
          · refine zx_iinc (pc := 104) hF (v := nI (t + 1)) (lv' := [(3, .int (nI (t + 1))), (4, .int (nI (t % sN0))), (0, .ref m0), (1, .int (nI b)), (2, .int (nI lf))]) d_Mod_deal_104 4 rfl (zinc t) (by decide) rfl ?_
            refine zx_goto (pc := 107) hF d_Mod_deal_107 (tgt := 40) rfl ?_
            refine zx_lv [2, 3, 4, 0] (lv' := [(0, .ref m0), (1, .int (nI b)), (2, .int (nI lf)), (3, .int (nI (t + 1)))]) rfl ?_
            exact ih (k - 1) (t + 1, lf, d') (by omega) ⟨by first | omega | (dsimp only; omega) | dsimp only, by first | omega | (dsimp only; omega) | dsimp only, by obtain ⟨k', rfl⟩ : ∃ k', k = k' + 1 := ⟨k - 1, by omega⟩; simpa [g_loop, g_one, g_sh, (show ¬ lf = 0 by omega), h71] using hX⟩
          · refine zx_iload_n (pc := 74) hF d_Mod_deal_74 rfl 3 rfl ?_
            refine zx_if_le (pc := 75) hF d_Mod_deal_75 (tgt := 104) rfl (fun h75 => ?_) (fun h75 => ?_)
            · replace h75 : lf ≤ 0 := (nI_leI (a := lf) (b := 0) (by omega) (by omega)).mp h75
              exact absurd h75 h48
            · replace h75 : ¬ lf ≤ 0 := fun z => h75 ((nI_leI (a := lf) (b := 0) (by omega) (by omega)).mpr z)
              refine zx_aload_n (pc := 78) hF d_Mod_deal_78 rfl 1 rfl ?_
              refine zx_iload (pc := 79) hF d_Mod_deal_79 0 rfl ?_
              refine zx_Vi (pc := 81) hF (As := [.int (nI (t % sN0))]) (rest := []) (fun sz => M_Mod_wish l D K M m0 bN sN0 pN k0 k1 now x_wd x_beg x_std x_dea x_frm x_alv x_stm x_mov x_dwn x_ctd x_cutm x_pha x_usd x_gol x_esr x_epo x_offm x_ast x_opn x_ssr x_spo x_awa x_dat kpt x_hd by0 to0 rep had ost bst x_inr beg std d' fN sN (t % sN0) (by first | assumption | omega) (by first | assumption | omega) (by first | assumption | omega) (by first | assumption | omega) (Nat.mod_lt _ hS.1) sz) [0, 2, 3, 4] rfl (by decide) (as := [m0, x_beg, x_std, x_dea]) rfl rfl (ws' := [cO m0 11 [.int (nI bN), .int (nI sN0), .int (nI pN), .long k0, .long k1, .int now, .ref x_wd, .ref x_beg, .ref x_std, .ref x_dea, .ref x_frm, .ref x_alv, .ref x_stm, .ref x_mov, .ref x_dwn, .ref x_ctd, .ref x_cutm, .ref x_pha, .ref x_usd, .ref x_gol, .ref x_esr, .ref x_epo, .ref x_offm, .ref x_ast, .ref x_opn, .ref x_ssr, .ref x_spo, .ref x_awa, .ref x_dat, .int kpt, .ref x_hd, .int by0, .int to0, .int rep, .int had, .int ost, .int bst, .ref x_inr], cZ K x_dwn 32 dwn, cI K x_beg 8 beg, cI K x_std 8 std, cI K x_dea 101 d']) rfl 0 11 rfl rfl rfl (cw_Mod_183 hF.2.2.2.2.1 rfl rfl ⟨by decide, by decide⟩) rfl rfl (Nat.le_of_ble_eq_true rfl) d_Mod_deal_81 ⟨Nat.zero_le _, Nat.zero_le _⟩ ?_
              refine zx_istore (pc := 84) hF (lv' := [(5, .int (g_wish d' (f_pl fN sN pN (t % sN0)) pN 0)), (4, .int (nI (t % sN0))), (0, .ref m0), (1, .int (nI b)), (2, .int (nI lf)), (3, .int (nI t))]) d_Mod_deal_84 (by decide) rfl ?_
              refine zx_iload (pc := 86) hF d_Mod_deal_86 0 rfl ?_
              refine zx_if_lt (pc := 88) hF d_Mod_deal_88 (tgt := 100) rfl (fun h88 => ?_) (fun h88 => ?_)
              · refine zx_iload_n (pc := 100) hF d_Mod_deal_100 rfl 4 rfl ?_
                refine zx_iconst (pc := 101) hF d_Mod_deal_101 k_i1 ?_
                refine zx_isub (pc := 102) hF d_Mod_deal_102 ?_
                refine zx_topi (nI (lf - 1)) (pk_sub (a := lf) (b := 1) (by omega)) ?_
                refine zx_istore_n (pc := 103) hF (lv' := [(2, .int (nI (lf - 1))), (5, .int (g_wish d' (f_pl fN sN pN (t % sN0)) pN 0)), (4, .int (nI (t % sN0))), (0, .ref m0), (1, .int (nI b)), (3, .int (nI t))]) d_Mod_deal_103 rfl (by decide) rfl ?_
                refine zx_iinc (pc := 104) hF (v := nI (t + 1)) (lv' := [(3, .int (nI (t + 1))), (2, .int (nI (lf - 1))), (5, .int (g_wish d' (f_pl fN sN pN (t % sN0)) pN 0)), (4, .int (nI (t % sN0))), (0, .ref m0), (1, .int (nI b))]) d_Mod_deal_104 5 rfl (zinc t) (by decide) rfl ?_
                refine zx_goto (pc := 107) hF d_Mod_deal_107 (tgt := 40) rfl ?_
                refine zx_lv [4, 5, 1, 0] (lv' := [(0, .ref m0), (1, .int (nI b)), (2, .int (nI (lf - 1))), (3, .int (nI (t + 1)))]) rfl ?_
                exact ih (k - 1) (t + 1, lf - 1, d') (by omega) ⟨by first | omega | (dsimp only; omega) | dsimp only, by first | omega | (dsimp only; omega) | dsimp only, by obtain ⟨k', rfl⟩ : ∃ k', k = k' + 1 := ⟨k - 1, by omega⟩; simpa [g_loop, g_one, g_sh, (show ¬ lf = 0 by omega), h71, h88] using hX⟩
              · refine zx_aload_n (pc := 91) hF d_Mod_deal_91 rfl 2 rfl ?_
                refine zg_Mod_20 (pc := 92) hF 0 rfl rfl d_Mod_deal_92 ?_
                refine zx_iload (pc := 95) hF d_Mod_deal_95 0 rfl ?_
                refine zx_iload (pc := 97) hF d_Mod_deal_97 1 rfl ?_
                refine zx_iast (pc := 99) hF 4 rfl (g_wish_in (by omega) (fun i => Nat.lt_of_lt_of_le (f_pl_lt hP.1) hP.2) _ _ h88) d_Mod_deal_99 (ws' := [cO m0 11 [.int (nI bN), .int (nI sN0), .int (nI pN), .long k0, .long k1, .int now, .ref x_wd, .ref x_beg, .ref x_std, .ref x_dea, .ref x_frm, .ref x_alv, .ref x_stm, .ref x_mov, .ref x_dwn, .ref x_ctd, .ref x_cutm, .ref x_pha, .ref x_usd, .ref x_gol, .ref x_esr, .ref x_epo, .ref x_offm, .ref x_ast, .ref x_opn, .ref x_ssr, .ref x_spo, .ref x_awa, .ref x_dat, .int kpt, .ref x_hd, .int by0, .int to0, .int rep, .int had, .int ost, .int bst, .ref x_inr], cZ K x_dwn 32 dwn, cI K x_beg 8 beg, cI K x_std 8 std, cI K x_dea 101 (upd d' (Int32.toNatClampNeg (g_wish d' (f_pl fN sN pN (t % sN0)) pN 0)) (nI (t % sN0)))]) rfl ?_
                refine zx_iload_n (pc := 100) hF d_Mod_deal_100 rfl 4 rfl ?_
                refine zx_iconst (pc := 101) hF d_Mod_deal_101 k_i1 ?_
                refine zx_isub (pc := 102) hF d_Mod_deal_102 ?_
                refine zx_topi (nI (lf - 1)) (pk_sub (a := lf) (b := 1) (by omega)) ?_
                refine zx_istore_n (pc := 103) hF (lv' := [(2, .int (nI (lf - 1))), (5, .int (g_wish d' (f_pl fN sN pN (t % sN0)) pN 0)), (4, .int (nI (t % sN0))), (0, .ref m0), (1, .int (nI b)), (3, .int (nI t))]) d_Mod_deal_103 rfl (by decide) rfl ?_
                refine zx_iinc (pc := 104) hF (v := nI (t + 1)) (lv' := [(3, .int (nI (t + 1))), (2, .int (nI (lf - 1))), (5, .int (g_wish d' (f_pl fN sN pN (t % sN0)) pN 0)), (4, .int (nI (t % sN0))), (0, .ref m0), (1, .int (nI b))]) d_Mod_deal_104 5 rfl (zinc t) (by decide) rfl ?_
                refine zx_goto (pc := 107) hF d_Mod_deal_107 (tgt := 40) rfl ?_
                refine zx_lv [4, 5, 1, 0] (lv' := [(0, .ref m0), (1, .int (nI b)), (2, .int (nI (lf - 1))), (3, .int (nI (t + 1)))]) rfl ?_
                exact ih (k - 1) (t + 1, lf - 1, upd d' (Int32.toNatClampNeg (g_wish d' (f_pl fN sN pN (t % sN0)) pN 0)) (nI (t % sN0))) (by omega) ⟨by first | omega | (dsimp only; omega) | dsimp only, by first | omega | (dsimp only; omega) | dsimp only, by obtain ⟨k', rfl⟩ : ∃ k', k = k' + 1 := ⟨k - 1, by omega⟩; simpa [g_loop, g_one, g_sh, (show ¬ lf = 0 by omega), h71, h88] using hX⟩
  · replace h5 : ¬ 101 ≤ j := fun z => h5 ((nI_leI (a := 101) (b := j) (by omega) (by omega)).mpr z)
    refine zx_aload_n (pc := 8) hF d_Mod_deal_8 rfl 0 rfl ?_
    refine zg_Mod_20 (pc := 9) hF 0 rfl rfl d_Mod_deal_9 ?_
    refine zx_iload_n (pc := 12) hF d_Mod_deal_12 rfl 2 rfl ?_
    refine zx_iconst (pc := 13) hF d_Mod_deal_13 k_im1 ?_
    refine zx_iastn (pc := 14) hF (i := j) 4 rfl (by omega) (by omega) d_Mod_deal_14 (ws' := [cO m0 11 [.int (nI bN), .int (nI sN0), .int (nI pN), .long k0, .long k1, .int now, .ref x_wd, .ref x_beg, .ref x_std, .ref x_dea, .ref x_frm, .ref x_alv, .ref x_stm, .ref x_mov, .ref x_dwn, .ref x_ctd, .ref x_cutm, .ref x_pha, .ref x_usd, .ref x_gol, .ref x_esr, .ref x_epo, .ref x_offm, .ref x_ast, .ref x_opn, .ref x_ssr, .ref x_spo, .ref x_awa, .ref x_dat, .int kpt, .ref x_hd, .int by0, .int to0, .int rep, .int had, .int ost, .int bst, .ref x_inr], cZ K x_dwn 32 dwn, cI K x_beg 8 beg, cI K x_std 8 std, cI K x_dea 101 (upd d' j (-1))]) rfl ?_
    refine zx_iinc (pc := 15) hF (v := nI (j + 1)) (lv' := [(2, .int (nI (j + 1))), (0, .ref m0), (1, .int (nI b))]) d_Mod_deal_15 2 rfl (zinc j) (by decide) rfl ?_
    refine zx_goto (pc := 18) hF d_Mod_deal_18 (tgt := 2) rfl ?_
    refine zx_lv [1, 2, 0] (lv' := [(0, .ref m0), (1, .int (nI b)), (2, .int (nI (j + 1)))]) rfl ?_
    exact ih0 (kz - 1) (j + 1, upd d' j (-1)) (by omega) ⟨by first | omega | (dsimp only; omega) | dsimp only, by obtain ⟨k', rfl⟩ : ∃ k', kz = k' + 1 := ⟨kz - 1, by omega⟩; exact hX0⟩
set_option maxRecDepth 20000 in
theorem M_Mod_place (l : Launch) (D : va_G) (K : Nat → ClassId) (M : List (ClassId × FieldType)) (m0 : Nat) (bN : Nat) (sN0 : Nat) (pN : Nat) (k0 : Int64) (k1 : Int64) (now : Int32) (x_wd : Nat) (x_beg : Nat) (x_std : Nat) (x_dea : Nat) (x_frm : Nat) (x_alv : Nat) (x_stm : Nat) (x_mov : Nat) (x_dwn : Nat) (x_ctd : Nat) (x_cutm : Nat) (x_pha : Nat) (x_usd : Nat) (x_gol : Nat) (x_esr : Nat) (x_epo : Nat) (x_offm : Nat) (x_ast : Nat) (x_opn : Nat) (x_ssr : Nat) (x_spo : Nat) (x_awa : Nat) (x_dat : Nat) (kpt : Int32) (x_hd : Nat) (by0 : Int32) (to0 : Int32) (rep : Int32) (had : Int32) (ost : Int32) (bst : Int32) (x_inr : Nat) (dwn : Nat → Int32) (beg : Nat → Int32) (std : Nat → Int32) (dea : Nat → Int32) (fN : Nat → Nat) (sN : Nat → Nat) (b : Nat) (t : Nat) (hB : bN ≤ 4) (hS : 0 < sN0 ∧ sN0 ≤ 8) (hb : b < bN) (hP : 0 < pN ∧ pN ≤ 101) (hL : f_LN beg std fN sN pN sN0) (ht : t < pN) (sz : Nat) : zM l y_Mod_place (zT y_Mod_place b_Mod_place 3 (some .int)) (zR 2 48) 0 0 D K M [.ref m0, .int (nI b), .int (nI t)] [cO m0 11 [.int (nI bN), .int (nI sN0), .int (nI pN), .long k0, .long k1, .int now, .ref x_wd, .ref x_beg, .ref x_std, .ref x_dea, .ref x_frm, .ref x_alv, .ref x_stm, .ref x_mov, .ref x_dwn, .ref x_ctd, .ref x_cutm, .ref x_pha, .ref x_usd, .ref x_gol, .ref x_esr, .ref x_epo, .ref x_offm, .ref x_ast, .ref x_opn, .ref x_ssr, .ref x_spo, .ref x_awa, .ref x_dat, .int kpt, .ref x_hd, .int by0, .int to0, .int rep, .int had, .int ost, .int bst, .ref x_inr], cZ K x_dwn 32 dwn, cI K x_beg 8 beg, cI K x_std 8 std, cI K x_dea 101 dea] sz (zQi D K M (g_deal fN sN pN sN0 (g_sh dwn b) dea t) [cO m0 11 [.int (nI bN), .int (nI sN0), .int (nI pN), .long k0, .long k1, .int now, .ref x_wd, .ref x_beg, .ref x_std, .ref x_dea, .ref x_frm, .ref x_alv, .ref x_stm, .ref x_mov, .ref x_dwn, .ref x_ctd, .ref x_cutm, .ref x_pha, .ref x_usd, .ref x_gol, .ref x_esr, .ref x_epo, .ref x_offm, .ref x_ast, .ref x_opn, .ref x_ssr, .ref x_spo, .ref x_awa, .ref x_dat, .int kpt, .ref x_hd, .int by0, .int to0, .int rep, .int had, .int ost, .int bst, .ref x_inr], cZ K x_dwn 32 dwn, cI K x_beg 8 beg, cI K x_std 8 std, cI K x_dea 101 (g_deal fN sN pN sN0 (g_sh dwn b) dea)]) := by
  refine zx_head (by decide) (Nat.le_of_ble_eq_true rfl) ?_
  intro _ _ _ _ _ _ _ _ _ hF hr hlk hnm
  refine zx_aload_n (pc := 0) hF d_Mod_place_0 rfl 0 rfl ?_
  refine zx_iload_n (pc := 1) hF d_Mod_place_1 rfl 1 rfl ?_
  refine zx_Vi (pc := 2) hF (As := [.int (nI b)]) (rest := []) (fun sz => M_Mod_isBalancer l D K M m0 bN sN0 pN k0 k1 now x_wd x_beg x_std x_dea x_frm x_alv x_stm x_mov x_dwn x_ctd x_cutm x_pha x_usd x_gol x_esr x_epo x_offm x_ast x_opn x_ssr x_spo x_awa x_dat kpt x_hd by0 to0 rep had ost bst x_inr (nI b)  sz) [0] rfl (by decide) (as := [m0]) rfl rfl (ws' := [cO m0 11 [.int (nI bN), .int (nI sN0), .int (nI pN), .long k0, .long k1, .int now, .ref x_wd, .ref x_beg, .ref x_std, .ref x_dea, .ref x_frm, .ref x_alv, .ref x_stm, .ref x_mov, .ref x_dwn, .ref x_ctd, .ref x_cutm, .ref x_pha, .ref x_usd, .ref x_gol, .ref x_esr, .ref x_epo, .ref x_offm, .ref x_ast, .ref x_opn, .ref x_ssr, .ref x_spo, .ref x_awa, .ref x_dat, .int kpt, .ref x_hd, .int by0, .int to0, .int rep, .int had, .int ost, .int bst, .ref x_inr], cZ K x_dwn 32 dwn, cI K x_beg 8 beg, cI K x_std 8 std, cI K x_dea 101 dea]) rfl 0 11 rfl rfl rfl (cw_Mod_186 hF.2.2.2.2.1 rfl rfl ⟨by decide, by decide⟩) rfl rfl (Nat.le_of_ble_eq_true rfl) d_Mod_place_2 ⟨Nat.zero_le _, Nat.zero_le _⟩ ?_
  refine zx_topi 1 (g_is_in hb (by omega)) ?_
  refine zx_if_eq (pc := 5) hF d_Mod_place_5 (tgt := 20) rfl (fun h5 => ?_) (fun h5 => ?_)
  · exact absurd h5 (by decide)
  · refine zx_iload_n (pc := 8) hF d_Mod_place_8 rfl 2 rfl ?_
    refine zx_if_lt (pc := 9) hF d_Mod_place_9 (tgt := 20) rfl (fun h9 => ?_) (fun h9 => ?_)
    · replace h9 : t < 0 := (nI_ltI (a := t) (b := 0) (by omega) (by omega)).mp h9
      exact absurd h9 (Nat.not_lt_zero _)
    · replace h9 : ¬ t < 0 := fun z => h9 ((nI_ltI (a := t) (b := 0) (by omega) (by omega)).mpr z)
      refine zx_iload_n (pc := 12) hF d_Mod_place_12 rfl 2 rfl ?_
      refine zx_aload_n (pc := 13) hF d_Mod_place_13 rfl 0 rfl ?_
      refine zg_Mod_107 (pc := 14) hF 0 rfl rfl d_Mod_place_14 ?_
      refine zx_icmp_lt (pc := 17) hF d_Mod_place_17 (tgt := 22) rfl (fun h17 => ?_) (fun h17 => ?_)
      · replace h17 : t < pN := (nI_ltI (a := t) (b := pN) (by omega) (by omega)).mp h17
        refine zx_aload_n (pc := 22) hF d_Mod_place_22 rfl 0 rfl ?_
        refine zx_iload_n (pc := 23) hF d_Mod_place_23 rfl 1 rfl ?_
        refine zx_Vv (pc := 24) hF (As := [.int (nI b)]) (rest := []) (fun sz => M_Mod_deal l D K M m0 bN sN0 pN k0 k1 now x_wd x_beg x_std x_dea x_frm x_alv x_stm x_mov x_dwn x_ctd x_cutm x_pha x_usd x_gol x_esr x_epo x_offm x_ast x_opn x_ssr x_spo x_awa x_dat kpt x_hd by0 to0 rep had ost bst x_inr dwn beg std dea fN sN b (by first | assumption | omega) (by first | assumption | omega) (by first | assumption | omega) (by first | assumption | omega) (by first | assumption | omega) sz) [0, 1, 2, 3, 4] rfl (by decide) (as := [m0, x_dwn, x_beg, x_std, x_dea]) rfl rfl (ws' := [cO m0 11 [.int (nI bN), .int (nI sN0), .int (nI pN), .long k0, .long k1, .int now, .ref x_wd, .ref x_beg, .ref x_std, .ref x_dea, .ref x_frm, .ref x_alv, .ref x_stm, .ref x_mov, .ref x_dwn, .ref x_ctd, .ref x_cutm, .ref x_pha, .ref x_usd, .ref x_gol, .ref x_esr, .ref x_epo, .ref x_offm, .ref x_ast, .ref x_opn, .ref x_ssr, .ref x_spo, .ref x_awa, .ref x_dat, .int kpt, .ref x_hd, .int by0, .int to0, .int rep, .int had, .int ost, .int bst, .ref x_inr], cZ K x_dwn 32 dwn, cI K x_beg 8 beg, cI K x_std 8 std, cI K x_dea 101 (g_deal fN sN pN sN0 (g_sh dwn b) dea)]) rfl 0 11 rfl rfl rfl (cw_Mod_189 hF.2.2.2.2.1 rfl rfl ⟨by decide, by decide⟩) rfl rfl (Nat.le_of_ble_eq_true rfl) d_Mod_place_24 ⟨Nat.zero_le _, Nat.zero_le _⟩ ?_
        refine zx_aload_n (pc := 27) hF d_Mod_place_27 rfl 0 rfl ?_
        refine zg_Mod_20 (pc := 28) hF 0 rfl rfl d_Mod_place_28 ?_
        refine zx_iload_n (pc := 31) hF d_Mod_place_31 rfl 2 rfl ?_
        refine zx_ialdn (pc := 32) hF (i := t) 4 rfl (by omega) (by omega) d_Mod_place_32 ?_
        exact zx_iret (pc := 33) hF hr hlk (by first | rfl | (simp only [if_neg h9, if_pos h17]; done) | (simp only [h9, h17, ↓reduceIte]; done) | simp [h9, h17]) (by first | rfl | (simp only [if_neg h9, if_pos h17]; done) | (simp only [h9, h17, ↓reduceIte]; done) | simp [h9, h17]) d_Mod_place_33
      · replace h17 : ¬ t < pN := fun z => h17 ((nI_ltI (a := t) (b := pN) (by omega) (by omega)).mpr z)
        exact absurd ht (by first | (have := nI_pos (n := t) (by omega); contradiction) | assumption | omega)
set_option maxRecDepth 20000 in
theorem M_Mod_place_b (l : Launch) (D : va_G) (K : Nat → ClassId) (M : List (ClassId × FieldType)) (m0 : Nat) (bN : Nat) (sN0 : Nat) (pN : Nat) (k0 : Int64) (k1 : Int64) (now : Int32) (x_wd : Nat) (x_beg : Nat) (x_std : Nat) (x_dea : Nat) (x_frm : Nat) (x_alv : Nat) (x_stm : Nat) (x_mov : Nat) (x_dwn : Nat) (x_ctd : Nat) (x_cutm : Nat) (x_pha : Nat) (x_usd : Nat) (x_gol : Nat) (x_esr : Nat) (x_epo : Nat) (x_offm : Nat) (x_ast : Nat) (x_opn : Nat) (x_ssr : Nat) (x_spo : Nat) (x_awa : Nat) (x_dat : Nat) (kpt : Int32) (x_hd : Nat) (by0 : Int32) (to0 : Int32) (rep : Int32) (had : Int32) (ost : Int32) (bst : Int32) (x_inr : Nat) (b : Int32) (t : Int32) (hb : g_is b bN = 0) (sz : Nat) : zM l y_Mod_place (zT y_Mod_place b_Mod_place 3 (some .int)) (zR 2 48) 0 0 D K M [.ref m0, .int b, .int t] [cO m0 11 [.int (nI bN), .int (nI sN0), .int (nI pN), .long k0, .long k1, .int now, .ref x_wd, .ref x_beg, .ref x_std, .ref x_dea, .ref x_frm, .ref x_alv, .ref x_stm, .ref x_mov, .ref x_dwn, .ref x_ctd, .ref x_cutm, .ref x_pha, .ref x_usd, .ref x_gol, .ref x_esr, .ref x_epo, .ref x_offm, .ref x_ast, .ref x_opn, .ref x_ssr, .ref x_spo, .ref x_awa, .ref x_dat, .int kpt, .ref x_hd, .int by0, .int to0, .int rep, .int had, .int ost, .int bst, .ref x_inr]] sz (zQi D K M (-1) [cO m0 11 [.int (nI bN), .int (nI sN0), .int (nI pN), .long k0, .long k1, .int now, .ref x_wd, .ref x_beg, .ref x_std, .ref x_dea, .ref x_frm, .ref x_alv, .ref x_stm, .ref x_mov, .ref x_dwn, .ref x_ctd, .ref x_cutm, .ref x_pha, .ref x_usd, .ref x_gol, .ref x_esr, .ref x_epo, .ref x_offm, .ref x_ast, .ref x_opn, .ref x_ssr, .ref x_spo, .ref x_awa, .ref x_dat, .int kpt, .ref x_hd, .int by0, .int to0, .int rep, .int had, .int ost, .int bst, .ref x_inr]]) := by
  refine zx_head (by decide) (Nat.le_of_ble_eq_true rfl) ?_
  intro _ _ _ _ _ _ _ _ _ hF hr hlk hnm
  refine zx_aload_n (pc := 0) hF d_Mod_place_0 rfl 0 rfl ?_
  refine zx_iload_n (pc := 1) hF d_Mod_place_1 rfl 1 rfl ?_
  refine zx_Vi (pc := 2) hF (As := [.int b]) (rest := []) (fun sz => M_Mod_isBalancer l D K M m0 bN sN0 pN k0 k1 now x_wd x_beg x_std x_dea x_frm x_alv x_stm x_mov x_dwn x_ctd x_cutm x_pha x_usd x_gol x_esr x_epo x_offm x_ast x_opn x_ssr x_spo x_awa x_dat kpt x_hd by0 to0 rep had ost bst x_inr b  sz) [0] rfl (by decide) (as := [m0]) rfl rfl (ws' := [cO m0 11 [.int (nI bN), .int (nI sN0), .int (nI pN), .long k0, .long k1, .int now, .ref x_wd, .ref x_beg, .ref x_std, .ref x_dea, .ref x_frm, .ref x_alv, .ref x_stm, .ref x_mov, .ref x_dwn, .ref x_ctd, .ref x_cutm, .ref x_pha, .ref x_usd, .ref x_gol, .ref x_esr, .ref x_epo, .ref x_offm, .ref x_ast, .ref x_opn, .ref x_ssr, .ref x_spo, .ref x_awa, .ref x_dat, .int kpt, .ref x_hd, .int by0, .int to0, .int rep, .int had, .int ost, .int bst, .ref x_inr]]) rfl 0 11 rfl rfl rfl (cw_Mod_186 hF.2.2.2.2.1 rfl rfl ⟨by decide, by decide⟩) rfl rfl (Nat.le_of_ble_eq_true rfl) d_Mod_place_2 ⟨Nat.zero_le _, Nat.zero_le _⟩ ?_
  refine zx_topi 0 (hb) ?_
  refine zx_if_eq (pc := 5) hF d_Mod_place_5 (tgt := 20) rfl (fun h5 => ?_) (fun h5 => ?_)
  · refine zx_iconst (pc := 20) hF d_Mod_place_20 k_im1 ?_
    exact zx_iret (pc := 21) hF hr hlk (by first | rfl | (simp only []; done) | (simp only [↓reduceIte]; done) | simp []) (by first | rfl | (simp only []; done) | (simp only [↓reduceIte]; done) | simp []) d_Mod_place_21
  · exact absurd h5 (by decide)
set_option maxRecDepth 20000 in
theorem M_Mod_place_t (l : Launch) (D : va_G) (K : Nat → ClassId) (M : List (ClassId × FieldType)) (m0 : Nat) (bN : Nat) (sN0 : Nat) (pN : Nat) (k0 : Int64) (k1 : Int64) (now : Int32) (x_wd : Nat) (x_beg : Nat) (x_std : Nat) (x_dea : Nat) (x_frm : Nat) (x_alv : Nat) (x_stm : Nat) (x_mov : Nat) (x_dwn : Nat) (x_ctd : Nat) (x_cutm : Nat) (x_pha : Nat) (x_usd : Nat) (x_gol : Nat) (x_esr : Nat) (x_epo : Nat) (x_offm : Nat) (x_ast : Nat) (x_opn : Nat) (x_ssr : Nat) (x_spo : Nat) (x_awa : Nat) (x_dat : Nat) (kpt : Int32) (x_hd : Nat) (by0 : Int32) (to0 : Int32) (rep : Int32) (had : Int32) (ost : Int32) (bst : Int32) (x_inr : Nat) (b : Nat) (t : Int32) (hB : bN ≤ 4) (hS : 0 < sN0 ∧ sN0 ≤ 8) (hb : b < bN) (ht : t < 0 ∨ nI pN ≤ t) (sz : Nat) : zM l y_Mod_place (zT y_Mod_place b_Mod_place 3 (some .int)) (zR 2 48) 0 0 D K M [.ref m0, .int (nI b), .int t] [cO m0 11 [.int (nI bN), .int (nI sN0), .int (nI pN), .long k0, .long k1, .int now, .ref x_wd, .ref x_beg, .ref x_std, .ref x_dea, .ref x_frm, .ref x_alv, .ref x_stm, .ref x_mov, .ref x_dwn, .ref x_ctd, .ref x_cutm, .ref x_pha, .ref x_usd, .ref x_gol, .ref x_esr, .ref x_epo, .ref x_offm, .ref x_ast, .ref x_opn, .ref x_ssr, .ref x_spo, .ref x_awa, .ref x_dat, .int kpt, .ref x_hd, .int by0, .int to0, .int rep, .int had, .int ost, .int bst, .ref x_inr]] sz (zQi D K M (-1) [cO m0 11 [.int (nI bN), .int (nI sN0), .int (nI pN), .long k0, .long k1, .int now, .ref x_wd, .ref x_beg, .ref x_std, .ref x_dea, .ref x_frm, .ref x_alv, .ref x_stm, .ref x_mov, .ref x_dwn, .ref x_ctd, .ref x_cutm, .ref x_pha, .ref x_usd, .ref x_gol, .ref x_esr, .ref x_epo, .ref x_offm, .ref x_ast, .ref x_opn, .ref x_ssr, .ref x_spo, .ref x_awa, .ref x_dat, .int kpt, .ref x_hd, .int by0, .int to0, .int rep, .int had, .int ost, .int bst, .ref x_inr]]) := by
  refine zx_head (by decide) (Nat.le_of_ble_eq_true rfl) ?_
  intro _ _ _ _ _ _ _ _ _ hF hr hlk hnm
  refine zx_aload_n (pc := 0) hF d_Mod_place_0 rfl 0 rfl ?_
  refine zx_iload_n (pc := 1) hF d_Mod_place_1 rfl 1 rfl ?_
  refine zx_Vi (pc := 2) hF (As := [.int (nI b)]) (rest := []) (fun sz => M_Mod_isBalancer l D K M m0 bN sN0 pN k0 k1 now x_wd x_beg x_std x_dea x_frm x_alv x_stm x_mov x_dwn x_ctd x_cutm x_pha x_usd x_gol x_esr x_epo x_offm x_ast x_opn x_ssr x_spo x_awa x_dat kpt x_hd by0 to0 rep had ost bst x_inr (nI b)  sz) [0] rfl (by decide) (as := [m0]) rfl rfl (ws' := [cO m0 11 [.int (nI bN), .int (nI sN0), .int (nI pN), .long k0, .long k1, .int now, .ref x_wd, .ref x_beg, .ref x_std, .ref x_dea, .ref x_frm, .ref x_alv, .ref x_stm, .ref x_mov, .ref x_dwn, .ref x_ctd, .ref x_cutm, .ref x_pha, .ref x_usd, .ref x_gol, .ref x_esr, .ref x_epo, .ref x_offm, .ref x_ast, .ref x_opn, .ref x_ssr, .ref x_spo, .ref x_awa, .ref x_dat, .int kpt, .ref x_hd, .int by0, .int to0, .int rep, .int had, .int ost, .int bst, .ref x_inr]]) rfl 0 11 rfl rfl rfl (cw_Mod_186 hF.2.2.2.2.1 rfl rfl ⟨by decide, by decide⟩) rfl rfl (Nat.le_of_ble_eq_true rfl) d_Mod_place_2 ⟨Nat.zero_le _, Nat.zero_le _⟩ ?_
  refine zx_topi 1 (g_is_in hb (by omega)) ?_
  refine zx_if_eq (pc := 5) hF d_Mod_place_5 (tgt := 20) rfl (fun h5 => ?_) (fun h5 => ?_)
  · exact absurd h5 (by decide)
  · refine zx_iload_n (pc := 8) hF d_Mod_place_8 rfl 2 rfl ?_
    refine zx_if_lt (pc := 9) hF d_Mod_place_9 (tgt := 20) rfl (fun h9 => ?_) (fun h9 => ?_)
    · refine zx_iconst (pc := 20) hF d_Mod_place_20 k_im1 ?_
      exact zx_iret (pc := 21) hF hr hlk (by first | rfl | (simp only [if_pos h9]; done) | (simp only [h9, ↓reduceIte]; done) | simp [h9]) (by first | rfl | (simp only [if_pos h9]; done) | (simp only [h9, ↓reduceIte]; done) | simp [h9]) d_Mod_place_21
    · refine zx_iload_n (pc := 12) hF d_Mod_place_12 rfl 2 rfl ?_
      refine zx_aload_n (pc := 13) hF d_Mod_place_13 rfl 0 rfl ?_
      refine zg_Mod_107 (pc := 14) hF 0 rfl rfl d_Mod_place_14 ?_
      refine zx_icmp_lt (pc := 17) hF d_Mod_place_17 (tgt := 22) rfl (fun h17 => ?_) (fun h17 => ?_)
      · exact absurd ht (by intro z; rcases z with z | z; exact h9 z; exact Int32.not_le.mpr h17 z)
      · refine zx_iconst (pc := 20) hF d_Mod_place_20 k_im1 ?_
        exact zx_iret (pc := 21) hF hr hlk (by first | rfl | (simp only [if_neg h9, if_neg h17]; done) | (simp only [h9, h17, ↓reduceIte]; done) | simp [h9, h17]) (by first | rfl | (simp only [if_neg h9, if_neg h17]; done) | (simp only [h9, h17, ↓reduceIte]; done) | simp [h9, h17]) d_Mod_place_21
