set_option maxRecDepth 20000 in
theorem M_Mod_load (l : Launch) (D : va_G) (K : Nat → ClassId) (M : List (ClassId × FieldType)) (m0 : Nat) (bN : Nat) (sN0 : Nat) (pN : Nat) (k0 : Int64) (k1 : Int64) (now : Int32) (x_wd : Nat) (x_beg : Nat) (x_std : Nat) (x_dea : Nat) (x_frm : Nat) (x_alv : Nat) (x_stm : Nat) (x_mov : Nat) (x_dwn : Nat) (x_ctd : Nat) (x_cutm : Nat) (x_pha : Nat) (x_usd : Nat) (x_gol : Nat) (x_esr : Nat) (x_epo : Nat) (x_offm : Nat) (x_ast : Nat) (x_opn : Nat) (x_ssr : Nat) (x_spo : Nat) (x_awa : Nat) (x_dat : Nat) (kpt : Int32) (x_hd : Nat) (by0 : Int32) (to0 : Int32) (rep : Int32) (had : Int32) (ost : Int32) (bst : Int32) (x_inr : Nat) (pha : Nat → Int32) (opn : Nat → Int32) (b : Nat) (q : Nat) (hB : bN ≤ 4) (hS : 0 < sN0 ∧ sN0 ≤ 8) (hb : b < bN) (hq : q < sN0) (sz : Nat) : zM l y_Mod_load (zT y_Mod_load b_Mod_load 5 (some .int)) (zR 1 21) 0 0 D K M [.ref m0, .int (nI b), .int (nI q)] [cO m0 11 [.int (nI bN), .int (nI sN0), .int (nI pN), .long k0, .long k1, .int now, .ref x_wd, .ref x_beg, .ref x_std, .ref x_dea, .ref x_frm, .ref x_alv, .ref x_stm, .ref x_mov, .ref x_dwn, .ref x_ctd, .ref x_cutm, .ref x_pha, .ref x_usd, .ref x_gol, .ref x_esr, .ref x_epo, .ref x_offm, .ref x_ast, .ref x_opn, .ref x_ssr, .ref x_spo, .ref x_awa, .ref x_dat, .int kpt, .ref x_hd, .int by0, .int to0, .int rep, .int had, .int ost, .int bst, .ref x_inr], cI K x_pha 32 pha, cZ K x_opn 80 opn] sz (zQi D K M (nI (g_l2 opn q 10 0 (g_l1 pha b))) [cO m0 11 [.int (nI bN), .int (nI sN0), .int (nI pN), .long k0, .long k1, .int now, .ref x_wd, .ref x_beg, .ref x_std, .ref x_dea, .ref x_frm, .ref x_alv, .ref x_stm, .ref x_mov, .ref x_dwn, .ref x_ctd, .ref x_cutm, .ref x_pha, .ref x_usd, .ref x_gol, .ref x_esr, .ref x_epo, .ref x_offm, .ref x_ast, .ref x_opn, .ref x_ssr, .ref x_spo, .ref x_awa, .ref x_dat, .int kpt, .ref x_hd, .int by0, .int to0, .int rep, .int had, .int ost, .int bst, .ref x_inr], cI K x_pha 32 pha, cZ K x_opn 80 opn]) := by
  refine zx_head (by decide) (Nat.le_of_ble_eq_true rfl) ?_
  intro _ _ _ _ _ _ _ _ _ hF hr hlk hnm
  refine zx_iconst (pc := 0) hF d_Mod_load_0 k_i0 ?_
  refine zx_istore_n (pc := 1) hF (lv' := [(3, .int 0), (0, .ref m0), (1, .int (nI b)), (2, .int (nI q))]) d_Mod_load_1 rfl (by decide) rfl ?_
  refine zx_iconst (pc := 2) hF d_Mod_load_2 k_i0 ?_
  refine zx_istore (pc := 3) hF (lv' := [(4, .int 0), (3, .int 0), (0, .ref m0), (1, .int (nI b)), (2, .int (nI q))]) d_Mod_load_3 (by decide) rfl ?_
  refine zx_lv [2, 3, 4, 1, 0] (lv' := [(0, .ref m0), (1, .int (nI b)), (2, .int (nI q)), (3, .int 0), (4, .int 0)]) rfl ?_
  refine zx_loop (pc := 5) (σ := Nat × Nat) (fun k1' zv => (zv.1 + k1' = 8) ∧ (f_count (fun e => !decide (pha (8 * b + e) ≤ 0)) k1' zv.1 zv.2 = g_l1 pha b) ∧ (zv.2 ≤ zv.1)) (fun zv => [cO m0 11 [.int (nI bN), .int (nI sN0), .int (nI pN), .long k0, .long k1, .int now, .ref x_wd, .ref x_beg, .ref x_std, .ref x_dea, .ref x_frm, .ref x_alv, .ref x_stm, .ref x_mov, .ref x_dwn, .ref x_ctd, .ref x_cutm, .ref x_pha, .ref x_usd, .ref x_gol, .ref x_esr, .ref x_epo, .ref x_offm, .ref x_ast, .ref x_opn, .ref x_ssr, .ref x_spo, .ref x_awa, .ref x_dat, .int kpt, .ref x_hd, .int by0, .int to0, .int rep, .int had, .int ost, .int bst, .ref x_inr], cI K x_pha 32 pha, cZ K x_opn 80 opn]) (fun zv => [(0, .ref m0), (1, .int (nI b)), (2, .int (nI q)), (3, .int (nI zv.2)), (4, .int (nI zv.1))]) 8 (0, 0) ⟨rfl, rfl, by first | omega | (dsimp only; omega) | dsimp only⟩ rfl rfl ?_
  intro k1' zv hI ih1
  obtain ⟨j, c⟩ := zv
  obtain ⟨hk1, hX1, hc1⟩ := hI
  replace hk1 : j + k1' = 8 := hk1
  replace hX1 : f_count (fun e => !decide (pha (8 * b + e) ≤ 0)) k1' j c = g_l1 pha b := hX1
  replace hc1 : c ≤ j := hc1
  refine zx_eq (ws' := [cO m0 11 [.int (nI bN), .int (nI sN0), .int (nI pN), .long k0, .long k1, .int now, .ref x_wd, .ref x_beg, .ref x_std, .ref x_dea, .ref x_frm, .ref x_alv, .ref x_stm, .ref x_mov, .ref x_dwn, .ref x_ctd, .ref x_cutm, .ref x_pha, .ref x_usd, .ref x_gol, .ref x_esr, .ref x_epo, .ref x_offm, .ref x_ast, .ref x_opn, .ref x_ssr, .ref x_spo, .ref x_awa, .ref x_dat, .int kpt, .ref x_hd, .int by0, .int to0, .int rep, .int had, .int ost, .int bst, .ref x_inr], cI K x_pha 32 pha, cZ K x_opn 80 opn]) (lv' := [(0, .ref m0), (1, .int (nI b)), (2, .int (nI q)), (3, .int (nI c)), (4, .int (nI j))]) rfl rfl rfl ?_
  refine zx_iload (pc := 5) hF d_Mod_load_5 4 rfl ?_
  refine zx_bipush (pc := 7) hF d_Mod_load_7 k_b8 ?_
  refine zx_icmp_ge (pc := 9) hF d_Mod_load_9 (tgt := 49) rfl (fun h9 => ?_) (fun h9 => ?_)
  · replace h9 : 8 ≤ j := (nI_leI (a := 8) (b := j) (by omega) (by omega)).mp h9
    obtain rfl : k1' = 0 := (by omega)
    have q_c : c = g_l1 pha b := hX1
    subst q_c
    refine zx_iconst (pc := 49) hF d_Mod_load_49 k_i0 ?_
    refine zx_istore (pc := 50) hF (lv' := [(4, .int 0), (0, .ref m0), (1, .int (nI b)), (2, .int (nI q)), (3, .int (nI (g_l1 pha b)))]) d_Mod_load_50 (by decide) rfl ?_
    refine zx_lv [1, 2, 3, 4, 0] (lv' := [(0, .ref m0), (1, .int (nI b)), (2, .int (nI q)), (3, .int (nI (g_l1 pha b))), (4, .int 0)]) rfl ?_
    refine zx_loop (pc := 52) (σ := Nat × Nat) (fun k2 zv => (zv.1 + k2 = 10) ∧ (g_l2 opn q k2 zv.1 zv.2 = g_l2 opn q 10 0 (g_l1 pha b)) ∧ (zv.2 ≤ 1000 * zv.1 + 8)) (fun zv => [cO m0 11 [.int (nI bN), .int (nI sN0), .int (nI pN), .long k0, .long k1, .int now, .ref x_wd, .ref x_beg, .ref x_std, .ref x_dea, .ref x_frm, .ref x_alv, .ref x_stm, .ref x_mov, .ref x_dwn, .ref x_ctd, .ref x_cutm, .ref x_pha, .ref x_usd, .ref x_gol, .ref x_esr, .ref x_epo, .ref x_offm, .ref x_ast, .ref x_opn, .ref x_ssr, .ref x_spo, .ref x_awa, .ref x_dat, .int kpt, .ref x_hd, .int by0, .int to0, .int rep, .int had, .int ost, .int bst, .ref x_inr], cI K x_pha 32 pha, cZ K x_opn 80 opn]) (fun zv => [(0, .ref m0), (1, .int (nI b)), (2, .int (nI q)), (3, .int (nI zv.2)), (4, .int (nI zv.1))]) 10 (0, (g_l1 pha b)) ⟨rfl, rfl, by first | omega | (dsimp only; omega) | dsimp only⟩ rfl rfl ?_
    intro k2 zv hI ih2
    obtain ⟨j, c⟩ := zv
    obtain ⟨hk2, hX2, hc2⟩ := hI
    replace hk2 : j + k2 = 10 := hk2
    replace hX2 : g_l2 opn q k2 j c = g_l2 opn q 10 0 (g_l1 pha b) := hX2
    replace hc2 : c ≤ 1000 * j + 8 := hc2
    refine zx_eq (ws' := [cO m0 11 [.int (nI bN), .int (nI sN0), .int (nI pN), .long k0, .long k1, .int now, .ref x_wd, .ref x_beg, .ref x_std, .ref x_dea, .ref x_frm, .ref x_alv, .ref x_stm, .ref x_mov, .ref x_dwn, .ref x_ctd, .ref x_cutm, .ref x_pha, .ref x_usd, .ref x_gol, .ref x_esr, .ref x_epo, .ref x_offm, .ref x_ast, .ref x_opn, .ref x_ssr, .ref x_spo, .ref x_awa, .ref x_dat, .int kpt, .ref x_hd, .int by0, .int to0, .int rep, .int had, .int ost, .int bst, .ref x_inr], cI K x_pha 32 pha, cZ K x_opn 80 opn]) (lv' := [(0, .ref m0), (1, .int (nI b)), (2, .int (nI q)), (3, .int (nI c)), (4, .int (nI j))]) rfl rfl rfl ?_
    refine zx_iload (pc := 52) hF d_Mod_load_52 4 rfl ?_
    refine zx_bipush (pc := 54) hF d_Mod_load_54 k_b10 ?_
    refine zx_icmp_ge (pc := 56) hF d_Mod_load_56 (tgt := 97) rfl (fun h56 => ?_) (fun h56 => ?_)
    · replace h56 : 10 ≤ j := (nI_leI (a := 10) (b := j) (by omega) (by omega)).mp h56
      obtain rfl : k2 = 0 := (by omega)
      have q_c : c = g_l2 opn q 10 0 (g_l1 pha b) := hX2
      subst q_c
      refine zx_iload_n (pc := 97) hF d_Mod_load_97 rfl 3 rfl ?_
      exact zx_iret (pc := 98) hF hr hlk (by first | rfl | (simp only [if_pos h9, if_pos h56]; done) | (simp only [h9, h56, ↓reduceIte]; done) | simp [h9, h56]) (by first | rfl | (simp only [if_pos h9, if_pos h56]; done) | (simp only [h9, h56, ↓reduceIte]; done) | simp [h9, h56]) d_Mod_load_98
    · replace h56 : ¬ 10 ≤ j := fun z => h56 ((nI_leI (a := 10) (b := j) (by omega) (by omega)).mpr z)
      refine zx_aload_n (pc := 59) hF d_Mod_load_59 rfl 0 rfl ?_
      refine zx_iload_n (pc := 60) hF d_Mod_load_60 rfl 2 rfl ?_
      refine zx_Vi (pc := 61) hF (As := [.int (nI q)]) (rest := []) (fun sz => M_Mod_isServer l D K M m0 bN sN0 pN k0 k1 now x_wd x_beg x_std x_dea x_frm x_alv x_stm x_mov x_dwn x_ctd x_cutm x_pha x_usd x_gol x_esr x_epo x_offm x_ast x_opn x_ssr x_spo x_awa x_dat kpt x_hd by0 to0 rep had ost bst x_inr (nI q)  sz) [0] rfl (by decide) (as := [m0]) rfl rfl (ws' := [cO m0 11 [.int (nI bN), .int (nI sN0), .int (nI pN), .long k0, .long k1, .int now, .ref x_wd, .ref x_beg, .ref x_std, .ref x_dea, .ref x_frm, .ref x_alv, .ref x_stm, .ref x_mov, .ref x_dwn, .ref x_ctd, .ref x_cutm, .ref x_pha, .ref x_usd, .ref x_gol, .ref x_esr, .ref x_epo, .ref x_offm, .ref x_ast, .ref x_opn, .ref x_ssr, .ref x_spo, .ref x_awa, .ref x_dat, .int kpt, .ref x_hd, .int by0, .int to0, .int rep, .int had, .int ost, .int bst, .ref x_inr], cI K x_pha 32 pha, cZ K x_opn 80 opn]) rfl 0 11 rfl rfl rfl (cw_Mod_192 hF.2.2.2.2.1 rfl rfl ⟨by decide, by decide⟩) rfl rfl (Nat.le_of_ble_eq_true rfl) d_Mod_load_61 ⟨Nat.zero_le _, Nat.zero_le _⟩ ?_
      refine zx_topi 1 (g_is_in hq (by omega)) ?_
      refine zx_if_eq (pc := 64) hF d_Mod_load_64 (tgt := 97) rfl (fun h64 => ?_) (fun h64 => ?_)
      · exact absurd h64 (by decide)
      · refine zx_aload_n (pc := 67) hF d_Mod_load_67 rfl 0 rfl ?_
        refine zg_Mod_66 (pc := 68) hF 0 rfl rfl d_Mod_load_68 ?_
        refine zx_bipush (pc := 71) hF d_Mod_load_71 k_b10 ?_
        refine zx_iload_n (pc := 73) hF d_Mod_load_73 rfl 2 rfl ?_
        refine zx_imul (pc := 74) hF d_Mod_load_74 ?_
        refine zx_topi (nI (10 * q)) (pk_mul 10 q) ?_
        refine zx_iload (pc := 75) hF d_Mod_load_75 4 rfl ?_
        refine zx_iadd (pc := 77) hF d_Mod_load_77 ?_
        refine zx_topi (nI ((10 * q) + j)) (nI_add (10 * q) j) ?_
        refine zx_zaldn (pc := 78) hF (i := (10 * q) + j) 2 rfl (by omega) (by omega) d_Mod_load_78 ?_
        refine zx_if_eq (pc := 79) hF d_Mod_load_79 (tgt := 89) rfl (fun h79 => ?_) (fun h79 => ?_)
        · refine zx_iload_n (pc := 89) hF d_Mod_load_89 rfl 3 rfl ?_
          refine zx_istore_n (pc := 90) hF (lv' := [(3, .int (nI c)), (0, .ref m0), (1, .int (nI b)), (2, .int (nI q)), (4, .int (nI j))]) d_Mod_load_90 rfl (by decide) rfl ?_
          refine zx_iinc (pc := 91) hF (v := nI (j + 1)) (lv' := [(4, .int (nI (j + 1))), (3, .int (nI c)), (0, .ref m0), (1, .int (nI b)), (2, .int (nI q))]) d_Mod_load_91 4 rfl (zinc j) (by decide) rfl ?_
          refine zx_goto (pc := 94) hF d_Mod_load_94 (tgt := 52) rfl ?_
          refine zx_lv [2, 3, 4, 1, 0] (lv' := [(0, .ref m0), (1, .int (nI b)), (2, .int (nI q)), (3, .int (nI c)), (4, .int (nI (j + 1)))]) rfl ?_
          exact ih2 (k2 - 1) (j + 1, c) (by omega) ⟨by first | omega | (dsimp only; omega) | dsimp only, by obtain ⟨k', rfl⟩ : ∃ k', k2 = k' + 1 := ⟨k2 - 1, by omega⟩; simpa [g_l2, h79] using hX2, by first | omega | (dsimp only; omega) | dsimp only⟩
        · refine zx_iload_n (pc := 82) hF d_Mod_load_82 rfl 3 rfl ?_
          refine zx_bipush (pc := 83) hF d_Mod_load_83 k_b100 ?_
          refine zx_iadd (pc := 85) hF d_Mod_load_85 ?_
          refine zx_topi (nI (c + 100)) (nI_add c 100) ?_
          refine zx_goto (pc := 86) hF d_Mod_load_86 (tgt := 90) rfl ?_
          refine zx_istore_n (pc := 90) hF (lv' := [(3, .int (nI (c + 100))), (0, .ref m0), (1, .int (nI b)), (2, .int (nI q)), (4, .int (nI j))]) d_Mod_load_90 rfl (by decide) rfl ?_
          refine zx_iinc (pc := 91) hF (v := nI (j + 1)) (lv' := [(4, .int (nI (j + 1))), (3, .int (nI (c + 100))), (0, .ref m0), (1, .int (nI b)), (2, .int (nI q))]) d_Mod_load_91 4 rfl (zinc j) (by decide) rfl ?_
          refine zx_goto (pc := 94) hF d_Mod_load_94 (tgt := 52) rfl ?_
          refine zx_lv [2, 3, 4, 1, 0] (lv' := [(0, .ref m0), (1, .int (nI b)), (2, .int (nI q)), (3, .int (nI (c + 100))), (4, .int (nI (j + 1)))]) rfl ?_
          exact ih2 (k2 - 1) (j + 1, c + 100) (by omega) ⟨by first | omega | (dsimp only; omega) | dsimp only, by obtain ⟨k', rfl⟩ : ∃ k', k2 = k' + 1 := ⟨k2 - 1, by omega⟩; simpa [g_l2, h79] using hX2, by first | omega | (dsimp only; omega) | dsimp only⟩
  · replace h9 : ¬ 8 ≤ j := fun z => h9 ((nI_leI (a := 8) (b := j) (by omega) (by omega)).mpr z)
    refine zx_aload_n (pc := 12) hF d_Mod_load_12 rfl 0 rfl ?_
    refine zx_iload_n (pc := 13) hF d_Mod_load_13 rfl 1 rfl ?_
    refine zx_Vi (pc := 14) hF (As := [.int (nI b)]) (rest := []) (fun sz => M_Mod_isBalancer l D K M m0 bN sN0 pN k0 k1 now x_wd x_beg x_std x_dea x_frm x_alv x_stm x_mov x_dwn x_ctd x_cutm x_pha x_usd x_gol x_esr x_epo x_offm x_ast x_opn x_ssr x_spo x_awa x_dat kpt x_hd by0 to0 rep had ost bst x_inr (nI b)  sz) [0] rfl (by decide) (as := [m0]) rfl rfl (ws' := [cO m0 11 [.int (nI bN), .int (nI sN0), .int (nI pN), .long k0, .long k1, .int now, .ref x_wd, .ref x_beg, .ref x_std, .ref x_dea, .ref x_frm, .ref x_alv, .ref x_stm, .ref x_mov, .ref x_dwn, .ref x_ctd, .ref x_cutm, .ref x_pha, .ref x_usd, .ref x_gol, .ref x_esr, .ref x_epo, .ref x_offm, .ref x_ast, .ref x_opn, .ref x_ssr, .ref x_spo, .ref x_awa, .ref x_dat, .int kpt, .ref x_hd, .int by0, .int to0, .int rep, .int had, .int ost, .int bst, .ref x_inr], cI K x_pha 32 pha, cZ K x_opn 80 opn]) rfl 0 11 rfl rfl rfl (cw_Mod_186 hF.2.2.2.2.1 rfl rfl ⟨by decide, by decide⟩) rfl rfl (Nat.le_of_ble_eq_true rfl) d_Mod_load_14 ⟨Nat.zero_le _, Nat.zero_le _⟩ ?_
    refine zx_topi 1 (g_is_in hb (by omega)) ?_
    refine zx_if_eq (pc := 17) hF d_Mod_load_17 (tgt := 49) rfl (fun h17 => ?_) (fun h17 => ?_)
    · exact absurd h17 (by decide)
    · refine zx_aload_n (pc := 20) hF d_Mod_load_20 rfl 0 rfl ?_
      refine zg_Mod_45 (pc := 21) hF 0 rfl rfl d_Mod_load_21 ?_
      refine zx_bipush (pc := 24) hF d_Mod_load_24 k_b8 ?_
      refine zx_iload_n (pc := 26) hF d_Mod_load_26 rfl 1 rfl ?_
      refine zx_imul (pc := 27) hF d_Mod_load_27 ?_
      refine zx_topi (nI (8 * b)) (pk_mul 8 b) ?_
      refine zx_iload (pc := 28) hF d_Mod_load_28 4 rfl ?_
      refine zx_iadd (pc := 30) hF d_Mod_load_30 ?_
      refine zx_topi (nI ((8 * b) + j)) (nI_add (8 * b) j) ?_
      refine zx_ialdn (pc := 31) hF (i := (8 * b) + j) 1 rfl (by omega) (by omega) d_Mod_load_31 ?_
      refine zx_if_le (pc := 32) hF d_Mod_load_32 (tgt := 41) rfl (fun h32 => ?_) (fun h32 => ?_)
      · refine zx_iload_n (pc := 41) hF d_Mod_load_41 rfl 3 rfl ?_
        refine zx_istore_n (pc := 42) hF (lv' := [(3, .int (nI c)), (0, .ref m0), (1, .int (nI b)), (2, .int (nI q)), (4, .int (nI j))]) d_Mod_load_42 rfl (by decide) rfl ?_
        refine zx_iinc (pc := 43) hF (v := nI (j + 1)) (lv' := [(4, .int (nI (j + 1))), (3, .int (nI c)), (0, .ref m0), (1, .int (nI b)), (2, .int (nI q))]) d_Mod_load_43 4 rfl (zinc j) (by decide) rfl ?_
        refine zx_goto (pc := 46) hF d_Mod_load_46 (tgt := 5) rfl ?_
        refine zx_lv [2, 3, 4, 1, 0] (lv' := [(0, .ref m0), (1, .int (nI b)), (2, .int (nI q)), (3, .int (nI c)), (4, .int (nI (j + 1)))]) rfl ?_
        exact ih1 (k1' - 1) (j + 1, c) (by omega) ⟨by first | omega | (dsimp only; omega) | dsimp only, by obtain ⟨k', rfl⟩ : ∃ k', k1' = k' + 1 := ⟨k1' - 1, by omega⟩; simpa [f_count, h32] using hX1, by first | omega | (dsimp only; omega) | dsimp only⟩
      · refine zx_iload_n (pc := 35) hF d_Mod_load_35 rfl 3 rfl ?_
        refine zx_iconst (pc := 36) hF d_Mod_load_36 k_i1 ?_
        refine zx_iadd (pc := 37) hF d_Mod_load_37 ?_
        refine zx_topi (nI (c + 1)) (nI_add c 1) ?_
        refine zx_goto (pc := 38) hF d_Mod_load_38 (tgt := 42) rfl ?_
        refine zx_istore_n (pc := 42) hF (lv' := [(3, .int (nI (c + 1))), (0, .ref m0), (1, .int (nI b)), (2, .int (nI q)), (4, .int (nI j))]) d_Mod_load_42 rfl (by decide) rfl ?_
        refine zx_iinc (pc := 43) hF (v := nI (j + 1)) (lv' := [(4, .int (nI (j + 1))), (3, .int (nI (c + 1))), (0, .ref m0), (1, .int (nI b)), (2, .int (nI q))]) d_Mod_load_43 4 rfl (zinc j) (by decide) rfl ?_
        refine zx_goto (pc := 46) hF d_Mod_load_46 (tgt := 5) rfl ?_
        refine zx_lv [2, 3, 4, 1, 0] (lv' := [(0, .ref m0), (1, .int (nI b)), (2, .int (nI q)), (3, .int (nI (c + 1))), (4, .int (nI (j + 1)))]) rfl ?_
        exact ih1 (k1' - 1) (j + 1, c + 1) (by omega) ⟨by first | omega | (dsimp only; omega) | dsimp only, by obtain ⟨k', rfl⟩ : ∃ k', k1' = k' + 1 := ⟨k1' - 1, by omega⟩; simpa [f_count, h32] using hX1, by first | omega | (dsimp only; omega) | dsimp only⟩
set_option maxRecDepth 20000 in
theorem M_Mod_load_q (l : Launch) (D : va_G) (K : Nat → ClassId) (M : List (ClassId × FieldType)) (m0 : Nat) (bN : Nat) (sN0 : Nat) (pN : Nat) (k0 : Int64) (k1 : Int64) (now : Int32) (x_wd : Nat) (x_beg : Nat) (x_std : Nat) (x_dea : Nat) (x_frm : Nat) (x_alv : Nat) (x_stm : Nat) (x_mov : Nat) (x_dwn : Nat) (x_ctd : Nat) (x_cutm : Nat) (x_pha : Nat) (x_usd : Nat) (x_gol : Nat) (x_esr : Nat) (x_epo : Nat) (x_offm : Nat) (x_ast : Nat) (x_opn : Nat) (x_ssr : Nat) (x_spo : Nat) (x_awa : Nat) (x_dat : Nat) (kpt : Int32) (x_hd : Nat) (by0 : Int32) (to0 : Int32) (rep : Int32) (had : Int32) (ost : Int32) (bst : Int32) (x_inr : Nat) (pha : Nat → Int32) (opn : Nat → Int32) (b : Nat) (q : Int32) (hB : bN ≤ 4) (hS : 0 < sN0 ∧ sN0 ≤ 8) (hb : b < bN) (hq : g_is q sN0 = 0) (sz : Nat) : zM l y_Mod_load (zT y_Mod_load b_Mod_load 5 (some .int)) (zR 1 21) 0 0 D K M [.ref m0, .int (nI b), .int q] [cO m0 11 [.int (nI bN), .int (nI sN0), .int (nI pN), .long k0, .long k1, .int now, .ref x_wd, .ref x_beg, .ref x_std, .ref x_dea, .ref x_frm, .ref x_alv, .ref x_stm, .ref x_mov, .ref x_dwn, .ref x_ctd, .ref x_cutm, .ref x_pha, .ref x_usd, .ref x_gol, .ref x_esr, .ref x_epo, .ref x_offm, .ref x_ast, .ref x_opn, .ref x_ssr, .ref x_spo, .ref x_awa, .ref x_dat, .int kpt, .ref x_hd, .int by0, .int to0, .int rep, .int had, .int ost, .int bst, .ref x_inr], cI K x_pha 32 pha, cZ K x_opn 80 opn] sz (zQi D K M (nI (g_l1 pha b)) [cO m0 11 [.int (nI bN), .int (nI sN0), .int (nI pN), .long k0, .long k1, .int now, .ref x_wd, .ref x_beg, .ref x_std, .ref x_dea, .ref x_frm, .ref x_alv, .ref x_stm, .ref x_mov, .ref x_dwn, .ref x_ctd, .ref x_cutm, .ref x_pha, .ref x_usd, .ref x_gol, .ref x_esr, .ref x_epo, .ref x_offm, .ref x_ast, .ref x_opn, .ref x_ssr, .ref x_spo, .ref x_awa, .ref x_dat, .int kpt, .ref x_hd, .int by0, .int to0, .int rep, .int had, .int ost, .int bst, .ref x_inr], cI K x_pha 32 pha, cZ K x_opn 80 opn]) := by
  refine zx_head (by decide) (Nat.le_of_ble_eq_true rfl) ?_
  intro _ _ _ _ _ _ _ _ _ hF hr hlk hnm
  refine zx_iconst (pc := 0) hF d_Mod_load_0 k_i0 ?_
  refine zx_istore_n (pc := 1) hF (lv' := [(3, .int 0), (0, .ref m0), (1, .int (nI b)), (2, .int q)]) d_Mod_load_1 rfl (by decide) rfl ?_
  refine zx_iconst (pc := 2) hF d_Mod_load_2 k_i0 ?_
  refine zx_istore (pc := 3) hF (lv' := [(4, .int 0), (3, .int 0), (0, .ref m0), (1, .int (nI b)), (2, .int q)]) d_Mod_load_3 (by decide) rfl ?_
  refine zx_lv [2, 3, 4, 1, 0] (lv' := [(0, .ref m0), (1, .int (nI b)), (2, .int q), (3, .int 0), (4, .int 0)]) rfl ?_
  refine zx_loop (pc := 5) (σ := Nat × Nat) (fun k1' zv => (zv.1 + k1' = 8) ∧ (f_count (fun e => !decide (pha (8 * b + e) ≤ 0)) k1' zv.1 zv.2 = g_l1 pha b) ∧ (zv.2 ≤ zv.1)) (fun zv => [cO m0 11 [.int (nI bN), .int (nI sN0), .int (nI pN), .long k0, .long k1, .int now, .ref x_wd, .ref x_beg, .ref x_std, .ref x_dea, .ref x_frm, .ref x_alv, .ref x_stm, .ref x_mov, .ref x_dwn, .ref x_ctd, .ref x_cutm, .ref x_pha, .ref x_usd, .ref x_gol, .ref x_esr, .ref x_epo, .ref x_offm, .ref x_ast, .ref x_opn, .ref x_ssr, .ref x_spo, .ref x_awa, .ref x_dat, .int kpt, .ref x_hd, .int by0, .int to0, .int rep, .int had, .int ost, .int bst, .ref x_inr], cI K x_pha 32 pha, cZ K x_opn 80 opn]) (fun zv => [(0, .ref m0), (1, .int (nI b)), (2, .int q), (3, .int (nI zv.2)), (4, .int (nI zv.1))]) 8 (0, 0) ⟨rfl, rfl, by first | omega | (dsimp only; omega) | dsimp only⟩ rfl rfl ?_
  intro k1' zv hI ih1
  obtain ⟨j, c⟩ := zv
  obtain ⟨hk1, hX1, hc1⟩ := hI
  replace hk1 : j + k1' = 8 := hk1
  replace hX1 : f_count (fun e => !decide (pha (8 * b + e) ≤ 0)) k1' j c = g_l1 pha b := hX1
  replace hc1 : c ≤ j := hc1
  refine zx_eq (ws' := [cO m0 11 [.int (nI bN), .int (nI sN0), .int (nI pN), .long k0, .long k1, .int now, .ref x_wd, .ref x_beg, .ref x_std, .ref x_dea, .ref x_frm, .ref x_alv, .ref x_stm, .ref x_mov, .ref x_dwn, .ref x_ctd, .ref x_cutm, .ref x_pha, .ref x_usd, .ref x_gol, .ref x_esr, .ref x_epo, .ref x_offm, .ref x_ast, .ref x_opn, .ref x_ssr, .ref x_spo, .ref x_awa, .ref x_dat, .int kpt, .ref x_hd, .int by0, .int to0, .int rep, .int had, .int ost, .int bst, .ref x_inr], cI K x_pha 32 pha, cZ K x_opn 80 opn]) (lv' := [(0, .ref m0), (1, .int (nI b)), (2, .int q), (3, .int (nI c)), (4, .int (nI j))]) rfl rfl rfl ?_
  refine zx_iload (pc := 5) hF d_Mod_load_5 4 rfl ?_
  refine zx_bipush (pc := 7) hF d_Mod_load_7 k_b8 ?_
  refine zx_icmp_ge (pc := 9) hF d_Mod_load_9 (tgt := 49) rfl (fun h9 => ?_) (fun h9 => ?_)
  · replace h9 : 8 ≤ j := (nI_leI (a := 8) (b := j) (by omega) (by omega)).mp h9
    obtain rfl : k1' = 0 := (by omega)
    have q_c : c = g_l1 pha b := hX1
    subst q_c
    refine zx_iconst (pc := 49) hF d_Mod_load_49 k_i0 ?_
    refine zx_istore (pc := 50) hF (lv' := [(4, .int 0), (0, .ref m0), (1, .int (nI b)), (2, .int q), (3, .int (nI (g_l1 pha b)))]) d_Mod_load_50 (by decide) rfl ?_
    refine zx_iload (pc := 52) hF d_Mod_load_52 0 rfl ?_
    refine zx_bipush (pc := 54) hF d_Mod_load_54 k_b10 ?_
    refine zx_icmp_ge (pc := 56) hF d_Mod_load_56 (tgt := 97) rfl (fun h56 => ?_) (fun h56 => ?_)
    · exact absurd h56 (by decide)
    · refine zx_aload_n (pc := 59) hF d_Mod_load_59 rfl 1 rfl ?_
      refine zx_iload_n (pc := 60) hF d_Mod_load_60 rfl 3 rfl ?_
      refine zx_Vi (pc := 61) hF (As := [.int q]) (rest := []) (fun sz => M_Mod_isServer l D K M m0 bN sN0 pN k0 k1 now x_wd x_beg x_std x_dea x_frm x_alv x_stm x_mov x_dwn x_ctd x_cutm x_pha x_usd x_gol x_esr x_epo x_offm x_ast x_opn x_ssr x_spo x_awa x_dat kpt x_hd by0 to0 rep had ost bst x_inr q  sz) [0] rfl (by decide) (as := [m0]) rfl rfl (ws' := [cO m0 11 [.int (nI bN), .int (nI sN0), .int (nI pN), .long k0, .long k1, .int now, .ref x_wd, .ref x_beg, .ref x_std, .ref x_dea, .ref x_frm, .ref x_alv, .ref x_stm, .ref x_mov, .ref x_dwn, .ref x_ctd, .ref x_cutm, .ref x_pha, .ref x_usd, .ref x_gol, .ref x_esr, .ref x_epo, .ref x_offm, .ref x_ast, .ref x_opn, .ref x_ssr, .ref x_spo, .ref x_awa, .ref x_dat, .int kpt, .ref x_hd, .int by0, .int to0, .int rep, .int had, .int ost, .int bst, .ref x_inr], cI K x_pha 32 pha, cZ K x_opn 80 opn]) rfl 0 11 rfl rfl rfl (cw_Mod_192 hF.2.2.2.2.1 rfl rfl ⟨by decide, by decide⟩) rfl rfl (Nat.le_of_ble_eq_true rfl) d_Mod_load_61 ⟨Nat.zero_le _, Nat.zero_le _⟩ ?_
      refine zx_topi 0 (hq) ?_
      refine zx_if_eq (pc := 64) hF d_Mod_load_64 (tgt := 97) rfl (fun h64 => ?_) (fun h64 => ?_)
      · refine zx_iload_n (pc := 97) hF d_Mod_load_97 rfl 4 rfl ?_
        exact zx_iret (pc := 98) hF hr hlk (by first | rfl | (simp only [if_pos h9]; done) | (simp only [h9, ↓reduceIte]; done) | simp [h9]) (by first | rfl | (simp only [if_pos h9]; done) | (simp only [h9, ↓reduceIte]; done) | simp [h9]) d_Mod_load_98
      · exact absurd h64 (by decide)
  · replace h9 : ¬ 8 ≤ j := fun z => h9 ((nI_leI (a := 8) (b := j) (by omega) (by omega)).mpr z)
    refine zx_aload_n (pc := 12) hF d_Mod_load_12 rfl 0 rfl ?_
    refine zx_iload_n (pc := 13) hF d_Mod_load_13 rfl 1 rfl ?_
    refine zx_Vi (pc := 14) hF (As := [.int (nI b)]) (rest := []) (fun sz => M_Mod_isBalancer l D K M m0 bN sN0 pN k0 k1 now x_wd x_beg x_std x_dea x_frm x_alv x_stm x_mov x_dwn x_ctd x_cutm x_pha x_usd x_gol x_esr x_epo x_offm x_ast x_opn x_ssr x_spo x_awa x_dat kpt x_hd by0 to0 rep had ost bst x_inr (nI b)  sz) [0] rfl (by decide) (as := [m0]) rfl rfl (ws' := [cO m0 11 [.int (nI bN), .int (nI sN0), .int (nI pN), .long k0, .long k1, .int now, .ref x_wd, .ref x_beg, .ref x_std, .ref x_dea, .ref x_frm, .ref x_alv, .ref x_stm, .ref x_mov, .ref x_dwn, .ref x_ctd, .ref x_cutm, .ref x_pha, .ref x_usd, .ref x_gol, .ref x_esr, .ref x_epo, .ref x_offm, .ref x_ast, .ref x_opn, .ref x_ssr, .ref x_spo, .ref x_awa, .ref x_dat, .int kpt, .ref x_hd, .int by0, .int to0, .int rep, .int had, .int ost, .int bst, .ref x_inr], cI K x_pha 32 pha, cZ K x_opn 80 opn]) rfl 0 11 rfl rfl rfl (cw_Mod_186 hF.2.2.2.2.1 rfl rfl ⟨by decide, by decide⟩) rfl rfl (Nat.le_of_ble_eq_true rfl) d_Mod_load_14 ⟨Nat.zero_le _, Nat.zero_le _⟩ ?_
    refine zx_topi 1 (g_is_in hb (by omega)) ?_
    refine zx_if_eq (pc := 17) hF d_Mod_load_17 (tgt := 49) rfl (fun h17 => ?_) (fun h17 => ?_)
    · exact absurd h17 (by decide)
    · refine zx_aload_n (pc := 20) hF d_Mod_load_20 rfl 0 rfl ?_
      refine zg_Mod_45 (pc := 21) hF 0 rfl rfl d_Mod_load_21 ?_
      refine zx_bipush (pc := 24) hF d_Mod_load_24 k_b8 ?_
      refine zx_iload_n (pc := 26) hF d_Mod_load_26 rfl 1 rfl ?_
      refine zx_imul (pc := 27) hF d_Mod_load_27 ?_
      refine zx_topi (nI (8 * b)) (pk_mul 8 b) ?_
      refine zx_iload (pc := 28) hF d_Mod_load_28 4 rfl ?_
      refine zx_iadd (pc := 30) hF d_Mod_load_30 ?_
      refine zx_topi (nI ((8 * b) + j)) (nI_add (8 * b) j) ?_
      refine zx_ialdn (pc := 31) hF (i := (8 * b) + j) 1 rfl (by omega) (by omega) d_Mod_load_31 ?_
      refine zx_if_le (pc := 32) hF d_Mod_load_32 (tgt := 41) rfl (fun h32 => ?_) (fun h32 => ?_)
      · refine zx_iload_n (pc := 41) hF d_Mod_load_41 rfl 3 rfl ?_
        refine zx_istore_n (pc := 42) hF (lv' := [(3, .int (nI c)), (0, .ref m0), (1, .int (nI b)), (2, .int q), (4, .int (nI j))]) d_Mod_load_42 rfl (by decide) rfl ?_
        refine zx_iinc (pc := 43) hF (v := nI (j + 1)) (lv' := [(4, .int (nI (j + 1))), (3, .int (nI c)), (0, .ref m0), (1, .int (nI b)), (2, .int q)]) d_Mod_load_43 4 rfl (zinc j) (by decide) rfl ?_
        refine zx_goto (pc := 46) hF d_Mod_load_46 (tgt := 5) rfl ?_
        refine zx_lv [2, 3, 4, 1, 0] (lv' := [(0, .ref m0), (1, .int (nI b)), (2, .int q), (3, .int (nI c)), (4, .int (nI (j + 1)))]) rfl ?_
        exact ih1 (k1' - 1) (j + 1, c) (by omega) ⟨by first | omega | (dsimp only; omega) | dsimp only, by obtain ⟨k', rfl⟩ : ∃ k', k1' = k' + 1 := ⟨k1' - 1, by omega⟩; simpa [f_count, h32] using hX1, by first | omega | (dsimp only; omega) | dsimp only⟩
      · refine zx_iload_n (pc := 35) hF d_Mod_load_35 rfl 3 rfl ?_
        refine zx_iconst (pc := 36) hF d_Mod_load_36 k_i1 ?_
        refine zx_iadd (pc := 37) hF d_Mod_load_37 ?_
        refine zx_topi (nI (c + 1)) (nI_add c 1) ?_
        refine zx_goto (pc := 38) hF d_Mod_load_38 (tgt := 42) rfl ?_
        refine zx_istore_n (pc := 42) hF (lv' := [(3, .int (nI (c + 1))), (0, .ref m0), (1, .int (nI b)), (2, .int q), (4, .int (nI j))]) d_Mod_load_42 rfl (by decide) rfl ?_
        refine zx_iinc (pc := 43) hF (v := nI (j + 1)) (lv' := [(4, .int (nI (j + 1))), (3, .int (nI (c + 1))), (0, .ref m0), (1, .int (nI b)), (2, .int q)]) d_Mod_load_43 4 rfl (zinc j) (by decide) rfl ?_
        refine zx_goto (pc := 46) hF d_Mod_load_46 (tgt := 5) rfl ?_
        refine zx_lv [2, 3, 4, 1, 0] (lv' := [(0, .ref m0), (1, .int (nI b)), (2, .int q), (3, .int (nI (c + 1))), (4, .int (nI (j + 1)))]) rfl ?_
        exact ih1 (k1' - 1) (j + 1, c + 1) (by omega) ⟨by first | omega | (dsimp only; omega) | dsimp only, by obtain ⟨k', rfl⟩ : ∃ k', k1' = k' + 1 := ⟨k1' - 1, by omega⟩; simpa [f_count, h32] using hX1, by first | omega | (dsimp only; omega) | dsimp only⟩
set_option maxRecDepth 20000 in
theorem M_Mod_load_b (l : Launch) (D : va_G) (K : Nat → ClassId) (M : List (ClassId × FieldType)) (m0 : Nat) (bN : Nat) (sN0 : Nat) (pN : Nat) (k0 : Int64) (k1 : Int64) (now : Int32) (x_wd : Nat) (x_beg : Nat) (x_std : Nat) (x_dea : Nat) (x_frm : Nat) (x_alv : Nat) (x_stm : Nat) (x_mov : Nat) (x_dwn : Nat) (x_ctd : Nat) (x_cutm : Nat) (x_pha : Nat) (x_usd : Nat) (x_gol : Nat) (x_esr : Nat) (x_epo : Nat) (x_offm : Nat) (x_ast : Nat) (x_opn : Nat) (x_ssr : Nat) (x_spo : Nat) (x_awa : Nat) (x_dat : Nat) (kpt : Int32) (x_hd : Nat) (by0 : Int32) (to0 : Int32) (rep : Int32) (had : Int32) (ost : Int32) (bst : Int32) (x_inr : Nat) (pha : Nat → Int32) (opn : Nat → Int32) (b : Int32) (q : Nat) (hB : bN ≤ 4) (hS : 0 < sN0 ∧ sN0 ≤ 8) (hb : g_is b bN = 0) (hq : q < sN0) (sz : Nat) : zM l y_Mod_load (zT y_Mod_load b_Mod_load 5 (some .int)) (zR 1 21) 0 0 D K M [.ref m0, .int b, .int (nI q)] [cO m0 11 [.int (nI bN), .int (nI sN0), .int (nI pN), .long k0, .long k1, .int now, .ref x_wd, .ref x_beg, .ref x_std, .ref x_dea, .ref x_frm, .ref x_alv, .ref x_stm, .ref x_mov, .ref x_dwn, .ref x_ctd, .ref x_cutm, .ref x_pha, .ref x_usd, .ref x_gol, .ref x_esr, .ref x_epo, .ref x_offm, .ref x_ast, .ref x_opn, .ref x_ssr, .ref x_spo, .ref x_awa, .ref x_dat, .int kpt, .ref x_hd, .int by0, .int to0, .int rep, .int had, .int ost, .int bst, .ref x_inr], cI K x_pha 32 pha, cZ K x_opn 80 opn] sz (zQi D K M (nI (g_l2 opn q 10 0 (0))) [cO m0 11 [.int (nI bN), .int (nI sN0), .int (nI pN), .long k0, .long k1, .int now, .ref x_wd, .ref x_beg, .ref x_std, .ref x_dea, .ref x_frm, .ref x_alv, .ref x_stm, .ref x_mov, .ref x_dwn, .ref x_ctd, .ref x_cutm, .ref x_pha, .ref x_usd, .ref x_gol, .ref x_esr, .ref x_epo, .ref x_offm, .ref x_ast, .ref x_opn, .ref x_ssr, .ref x_spo, .ref x_awa, .ref x_dat, .int kpt, .ref x_hd, .int by0, .int to0, .int rep, .int had, .int ost, .int bst, .ref x_inr], cI K x_pha 32 pha, cZ K x_opn 80 opn]) := by
  refine zx_head (by decide) (Nat.le_of_ble_eq_true rfl) ?_
  intro _ _ _ _ _ _ _ _ _ hF hr hlk hnm
  refine zx_iconst (pc := 0) hF d_Mod_load_0 k_i0 ?_
  refine zx_istore_n (pc := 1) hF (lv' := [(3, .int 0), (0, .ref m0), (1, .int b), (2, .int (nI q))]) d_Mod_load_1 rfl (by decide) rfl ?_
  refine zx_iconst (pc := 2) hF d_Mod_load_2 k_i0 ?_
  refine zx_istore (pc := 3) hF (lv' := [(4, .int 0), (3, .int 0), (0, .ref m0), (1, .int b), (2, .int (nI q))]) d_Mod_load_3 (by decide) rfl ?_
  refine zx_iload (pc := 5) hF d_Mod_load_5 0 rfl ?_
  refine zx_bipush (pc := 7) hF d_Mod_load_7 k_b8 ?_
  refine zx_icmp_ge (pc := 9) hF d_Mod_load_9 (tgt := 49) rfl (fun h9 => ?_) (fun h9 => ?_)
  · exact absurd h9 (by decide)
  · refine zx_aload_n (pc := 12) hF d_Mod_load_12 rfl 2 rfl ?_
    refine zx_iload_n (pc := 13) hF d_Mod_load_13 rfl 3 rfl ?_
    refine zx_Vi (pc := 14) hF (As := [.int b]) (rest := []) (fun sz => M_Mod_isBalancer l D K M m0 bN sN0 pN k0 k1 now x_wd x_beg x_std x_dea x_frm x_alv x_stm x_mov x_dwn x_ctd x_cutm x_pha x_usd x_gol x_esr x_epo x_offm x_ast x_opn x_ssr x_spo x_awa x_dat kpt x_hd by0 to0 rep had ost bst x_inr b  sz) [0] rfl (by decide) (as := [m0]) rfl rfl (ws' := [cO m0 11 [.int (nI bN), .int (nI sN0), .int (nI pN), .long k0, .long k1, .int now, .ref x_wd, .ref x_beg, .ref x_std, .ref x_dea, .ref x_frm, .ref x_alv, .ref x_stm, .ref x_mov, .ref x_dwn, .ref x_ctd, .ref x_cutm, .ref x_pha, .ref x_usd, .ref x_gol, .ref x_esr, .ref x_epo, .ref x_offm, .ref x_ast, .ref x_opn, .ref x_ssr, .ref x_spo, .ref x_awa, .ref x_dat, .int kpt, .ref x_hd, .int by0, .int to0, .int rep, .int had, .int ost, .int bst, .ref x_inr], cI K x_pha 32 pha, cZ K x_opn 80 opn]) rfl 0 11 rfl rfl rfl (cw_Mod_186 hF.2.2.2.2.1 rfl rfl ⟨by decide, by decide⟩) rfl rfl (Nat.le_of_ble_eq_true rfl) d_Mod_load_14 ⟨Nat.zero_le _, Nat.zero_le _⟩ ?_
    refine zx_topi 0 (hb) ?_
    refine zx_if_eq (pc := 17) hF d_Mod_load_17 (tgt := 49) rfl (fun h17 => ?_) (fun h17 => ?_)
    · refine zx_iconst (pc := 49) hF d_Mod_load_49 k_i0 ?_
      refine zx_istore (pc := 50) hF (lv' := [(4, .int 0), (3, .int 0), (0, .ref m0), (1, .int b), (2, .int (nI q))]) d_Mod_load_50 (by decide) rfl ?_
      refine zx_lv [2, 3, 4, 1, 0] (lv' := [(0, .ref m0), (1, .int b), (2, .int (nI q)), (3, .int 0), (4, .int 0)]) rfl ?_
      refine zx_loop (pc := 52) (σ := Nat × Nat) (fun k2 zv => (zv.1 + k2 = 10) ∧ (g_l2 opn q k2 zv.1 zv.2 = g_l2 opn q 10 0 (0)) ∧ (zv.2 ≤ 1000 * zv.1 + 8)) (fun zv => [cO m0 11 [.int (nI bN), .int (nI sN0), .int (nI pN), .long k0, .long k1, .int now, .ref x_wd, .ref x_beg, .ref x_std, .ref x_dea, .ref x_frm, .ref x_alv, .ref x_stm, .ref x_mov, .ref x_dwn, .ref x_ctd, .ref x_cutm, .ref x_pha, .ref x_usd, .ref x_gol, .ref x_esr, .ref x_epo, .ref x_offm, .ref x_ast, .ref x_opn, .ref x_ssr, .ref x_spo, .ref x_awa, .ref x_dat, .int kpt, .ref x_hd, .int by0, .int to0, .int rep, .int had, .int ost, .int bst, .ref x_inr], cI K x_pha 32 pha, cZ K x_opn 80 opn]) (fun zv => [(0, .ref m0), (1, .int b), (2, .int (nI q)), (3, .int (nI zv.2)), (4, .int (nI zv.1))]) 10 (0, 0) ⟨rfl, rfl, by first | omega | (dsimp only; omega) | dsimp only⟩ rfl rfl ?_
      intro k2 zv hI ih2
      obtain ⟨j, c⟩ := zv
      obtain ⟨hk2, hX2, hc2⟩ := hI
      replace hk2 : j + k2 = 10 := hk2
      replace hX2 : g_l2 opn q k2 j c = g_l2 opn q 10 0 (0) := hX2
      replace hc2 : c ≤ 1000 * j + 8 := hc2
      refine zx_eq (ws' := [cO m0 11 [.int (nI bN), .int (nI sN0), .int (nI pN), .long k0, .long k1, .int now, .ref x_wd, .ref x_beg, .ref x_std, .ref x_dea, .ref x_frm, .ref x_alv, .ref x_stm, .ref x_mov, .ref x_dwn, .ref x_ctd, .ref x_cutm, .ref x_pha, .ref x_usd, .ref x_gol, .ref x_esr, .ref x_epo, .ref x_offm, .ref x_ast, .ref x_opn, .ref x_ssr, .ref x_spo, .ref x_awa, .ref x_dat, .int kpt, .ref x_hd, .int by0, .int to0, .int rep, .int had, .int ost, .int bst, .ref x_inr], cI K x_pha 32 pha, cZ K x_opn 80 opn]) (lv' := [(0, .ref m0), (1, .int b), (2, .int (nI q)), (3, .int (nI c)), (4, .int (nI j))]) rfl rfl rfl ?_
      refine zx_iload (pc := 52) hF d_Mod_load_52 4 rfl ?_
      refine zx_bipush (pc := 54) hF d_Mod_load_54 k_b10 ?_
      refine zx_icmp_ge (pc := 56) hF d_Mod_load_56 (tgt := 97) rfl (fun h56 => ?_) (fun h56 => ?_)
      · replace h56 : 10 ≤ j := (nI_leI (a := 10) (b := j) (by omega) (by omega)).mp h56
        obtain rfl : k2 = 0 := (by omega)
        have q_c : c = g_l2 opn q 10 0 (0) := hX2
        subst q_c
        refine zx_iload_n (pc := 97) hF d_Mod_load_97 rfl 3 rfl ?_
        exact zx_iret (pc := 98) hF hr hlk (by first | rfl | (simp only [if_pos h56]; done) | (simp only [h56, ↓reduceIte]; done) | simp [h56]) (by first | rfl | (simp only [if_pos h56]; done) | (simp only [h56, ↓reduceIte]; done) | simp [h56]) d_Mod_load_98
      · replace h56 : ¬ 10 ≤ j := fun z => h56 ((nI_leI (a := 10) (b := j) (by omega) (by omega)).mpr z)
        refine zx_aload_n (pc := 59) hF d_Mod_load_59 rfl 0 rfl ?_
        refine zx_iload_n (pc := 60) hF d_Mod_load_60 rfl 2 rfl ?_
        refine zx_Vi (pc := 61) hF (As := [.int (nI q)]) (rest := []) (fun sz => M_Mod_isServer l D K M m0 bN sN0 pN k0 k1 now x_wd x_beg x_std x_dea x_frm x_alv x_stm x_mov x_dwn x_ctd x_cutm x_pha x_usd x_gol x_esr x_epo x_offm x_ast x_opn x_ssr x_spo x_awa x_dat kpt x_hd by0 to0 rep had ost bst x_inr (nI q)  sz) [0] rfl (by decide) (as := [m0]) rfl rfl (ws' := [cO m0 11 [.int (nI bN), .int (nI sN0), .int (nI pN), .long k0, .long k1, .int now, .ref x_wd, .ref x_beg, .ref x_std, .ref x_dea, .ref x_frm, .ref x_alv, .ref x_stm, .ref x_mov, .ref x_dwn, .ref x_ctd, .ref x_cutm, .ref x_pha, .ref x_usd, .ref x_gol, .ref x_esr, .ref x_epo, .ref x_offm, .ref x_ast, .ref x_opn, .ref x_ssr, .ref x_spo, .ref x_awa, .ref x_dat, .int kpt, .ref x_hd, .int by0, .int to0, .int rep, .int had, .int ost, .int bst, .ref x_inr], cI K x_pha 32 pha, cZ K x_opn 80 opn]) rfl 0 11 rfl rfl rfl (cw_Mod_192 hF.2.2.2.2.1 rfl rfl ⟨by decide, by decide⟩) rfl rfl (Nat.le_of_ble_eq_true rfl) d_Mod_load_61 ⟨Nat.zero_le _, Nat.zero_le _⟩ ?_
        refine zx_topi 1 (g_is_in hq (by omega)) ?_
        refine zx_if_eq (pc := 64) hF d_Mod_load_64 (tgt := 97) rfl (fun h64 => ?_) (fun h64 => ?_)
        · exact absurd h64 (by decide)
        · refine zx_aload_n (pc := 67) hF d_Mod_load_67 rfl 0 rfl ?_
          refine zg_Mod_66 (pc := 68) hF 0 rfl rfl d_Mod_load_68 ?_
          refine zx_bipush (pc := 71) hF d_Mod_load_71 k_b10 ?_
          refine zx_iload_n (pc := 73) hF d_Mod_load_73 rfl 2 rfl ?_
          refine zx_imul (pc := 74) hF d_Mod_load_74 ?_
          refine zx_topi (nI (10 * q)) (pk_mul 10 q) ?_
          refine zx_iload (pc := 75) hF d_Mod_load_75 4 rfl ?_
          refine zx_iadd (pc := 77) hF d_Mod_load_77 ?_
          refine zx_topi (nI ((10 * q) + j)) (nI_add (10 * q) j) ?_
          refine zx_zaldn (pc := 78) hF (i := (10 * q) + j) 2 rfl (by omega) (by omega) d_Mod_load_78 ?_
          refine zx_if_eq (pc := 79) hF d_Mod_load_79 (tgt := 89) rfl (fun h79 => ?_) (fun h79 => ?_)
          · refine zx_iload_n (pc := 89) hF d_Mod_load_89 rfl 3 rfl ?_
            refine zx_istore_n (pc := 90) hF (lv' := [(3, .int (nI c)), (0, .ref m0), (1, .int b), (2, .int (nI q)), (4, .int (nI j))]) d_Mod_load_90 rfl (by decide) rfl ?_
            refine zx_iinc (pc := 91) hF (v := nI (j + 1)) (lv' := [(4, .int (nI (j + 1))), (3, .int (nI c)), (0, .ref m0), (1, .int b), (2, .int (nI q))]) d_Mod_load_91 4 rfl (zinc j) (by decide) rfl ?_
            refine zx_goto (pc := 94) hF d_Mod_load_94 (tgt := 52) rfl ?_
            refine zx_lv [2, 3, 4, 1, 0] (lv' := [(0, .ref m0), (1, .int b), (2, .int (nI q)), (3, .int (nI c)), (4, .int (nI (j + 1)))]) rfl ?_
            exact ih2 (k2 - 1) (j + 1, c) (by omega) ⟨by first | omega | (dsimp only; omega) | dsimp only, by obtain ⟨k', rfl⟩ : ∃ k', k2 = k' + 1 := ⟨k2 - 1, by omega⟩; simpa [g_l2, h79] using hX2, by first | omega | (dsimp only; omega) | dsimp only⟩
          · refine zx_iload_n (pc := 82) hF d_Mod_load_82 rfl 3 rfl ?_
            refine zx_bipush (pc := 83) hF d_Mod_load_83 k_b100 ?_
            refine zx_iadd (pc := 85) hF d_Mod_load_85 ?_
            refine zx_topi (nI (c + 100)) (nI_add c 100) ?_
            refine zx_goto (pc := 86) hF d_Mod_load_86 (tgt := 90) rfl ?_
            refine zx_istore_n (pc := 90) hF (lv' := [(3, .int (nI (c + 100))), (0, .ref m0), (1, .int b), (2, .int (nI q)), (4, .int (nI j))]) d_Mod_load_90 rfl (by decide) rfl ?_
            refine zx_iinc (pc := 91) hF (v := nI (j + 1)) (lv' := [(4, .int (nI (j + 1))), (3, .int (nI (c + 100))), (0, .ref m0), (1, .int b), (2, .int (nI q))]) d_Mod_load_91 4 rfl (zinc j) (by decide) rfl ?_
            refine zx_goto (pc := 94) hF d_Mod_load_94 (tgt := 52) rfl ?_
            refine zx_lv [2, 3, 4, 1, 0] (lv' := [(0, .ref m0), (1, .int b), (2, .int (nI q)), (3, .int (nI (c + 100))), (4, .int (nI (j + 1)))]) rfl ?_
            exact ih2 (k2 - 1) (j + 1, c + 100) (by omega) ⟨by first | omega | (dsimp only; omega) | dsimp only, by obtain ⟨k', rfl⟩ : ∃ k', k2 = k' + 1 := ⟨k2 - 1, by omega⟩; simpa [g_l2, h79] using hX2, by first | omega | (dsimp only; omega) | dsimp only⟩
    · exact absurd h17 (by decide)
