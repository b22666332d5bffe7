set_option maxRecDepth 20000 in
theorem M_Ent_note (l : Launch) (D : va_G) (K : Nat → ClassId) (M : List (ClassId × FieldType)) (e0 : Nat) (e1 : Nat) (e2 : Nat) (e3 : Nat) (a0 : Nat) (a1 : Nat) (a2 : Nat) (a3 : Nat) (src : Nat → Int32) (prt : Nat → Int32) (use : Nat → Int32) (cnt : Int32) (sv : Nat → Int32) (pat : Nat → Int32) (lu : Nat → Int32) (s0 : Int32) (p0 : Int32) (sv0 : Int32) (fl : Int32) (t : Int32) (sz : Nat) : zM l y_Ent_note (zT y_Ent_note b_Ent_note 7 none) (zR 2 47) 0 0 D K M [.ref e0, .int s0, .int p0, .int sv0, .int fl, .int t] [cO e0 3 [.ref a0, .ref e1, .ref e2, .ref e3], cO a0 6 [.ref a1, .ref a2, .ref a3, .int cnt], cI K a1 8 src, cI K a2 8 prt, cZ K a3 8 use, cI K e1 8 sv, cI K e2 8 pat, cI K e3 8 lu] sz (zQv D K M [cO e0 3 [.ref a0, .ref e1, .ref e2, .ref e3], cO a0 6 [.ref a1, .ref a2, .ref a3, .int (f_ecnt fl cnt use src prt s0 p0)], cI K a1 8 (f_put src (f_enew fl use src prt s0 p0) s0), cI K a2 8 (f_put prt (f_enew fl use src prt s0 p0) p0), cZ K a3 8 (f_euse fl use src prt s0 p0), cI K e1 8 (f_eput fl sv use src prt s0 p0 sv0), cI K e2 8 (f_eput fl pat use src prt s0 p0 (f_pat fl)), cI K e3 8 (f_eput fl lu use src prt s0 p0 t)]) := by
  refine zx_head (by decide) (Nat.le_of_ble_eq_true rfl) ?_
  intro _ _ _ _ _ _ _ _ _ hF hr hlk hnm
  refine zx_iload (pc := 0) hF d_Ent_note_0 4 rfl ?_
  refine zx_iconst (pc := 2) hF d_Ent_note_2 k_i2 ?_
  refine zx_icmp_ne (pc := 3) hF d_Ent_note_3 (tgt := 18) rfl (fun h3 => ?_) (fun h3 => ?_)
  · refine zx_aload_n (pc := 18) hF d_Ent_note_18 rfl 0 rfl ?_
    refine zg_Ent_16 (pc := 19) hF 0 rfl rfl d_Ent_note_19 ?_
    refine zx_iload_n (pc := 22) hF d_Ent_note_22 rfl 1 rfl ?_
    refine zx_iload_n (pc := 23) hF d_Ent_note_23 rfl 2 rfl ?_
    refine zx_Vi (pc := 24) hF (As := [.int s0, .int p0]) (rest := []) (fun sz => M_Slo_find l D K M a0 a1 a2 a3 8 src prt use cnt s0 p0 (by first | assumption | omega) sz) [1, 2, 3, 4] rfl (by decide) (as := [a0, a1, a2, a3]) rfl rfl (ws' := [cO e0 3 [.ref a0, .ref e1, .ref e2, .ref e3], cO a0 6 [.ref a1, .ref a2, .ref a3, .int cnt], cI K a1 8 src, cI K a2 8 prt, cZ K a3 8 use, cI K e1 8 sv, cI K e2 8 pat, cI K e3 8 lu]) rfl 0 6 rfl rfl rfl (cw_Ent_30 hF.2.2.2.2.1 rfl rfl ⟨by decide, by decide⟩) rfl rfl (Nat.le_of_ble_eq_true rfl) d_Ent_note_24 ⟨Nat.zero_le _, Nat.zero_le _⟩ ?_
    refine zx_istore (pc := 27) hF (lv' := [(6, .int (f_find use src prt 8 s0 p0)), (0, .ref e0), (1, .int s0), (2, .int p0), (3, .int sv0), (4, .int fl), (5, .int t)]) d_Ent_note_27 (by decide) rfl ?_
    refine zx_iload (pc := 29) hF d_Ent_note_29 0 rfl ?_
    refine zx_iconst (pc := 31) hF d_Ent_note_31 k_im1 ?_
    refine zx_icmp_ne (pc := 32) hF d_Ent_note_32 (tgt := 36) rfl (fun h32 => ?_) (fun h32 => ?_)
    · refine zx_iload (pc := 36) hF d_Ent_note_36 5 rfl ?_
      refine zx_iconst (pc := 38) hF d_Ent_note_38 k_i4 ?_
      refine zx_icmp_ne (pc := 39) hF d_Ent_note_39 (tgt := 52) rfl (fun h39 => ?_) (fun h39 => ?_)
      · refine zx_aload_n (pc := 52) hF d_Ent_note_52 rfl 1 rfl ?_
        refine zg_Ent_20 (pc := 53) hF 0 rfl rfl d_Ent_note_53 ?_
        refine zx_iload (pc := 56) hF d_Ent_note_56 0 rfl ?_
        refine zx_topi (nI (Int32.toNatClampNeg (f_find use src prt 8 s0 p0))) ((f_find_cl (by omega) h32).1) ?_
        refine zx_iload_n (pc := 58) hF d_Ent_note_58 rfl 4 rfl ?_
        refine zx_iastn (pc := 59) hF (i := Int32.toNatClampNeg (f_find use src prt 8 s0 p0)) 5 rfl (f_find_cl (by omega) h32).2 (by omega) d_Ent_note_59 (ws' := [cO e0 3 [.ref a0, .ref e1, .ref e2, .ref e3], cO a0 6 [.ref a1, .ref a2, .ref a3, .int cnt], cI K a1 8 src, cI K a2 8 prt, cZ K a3 8 use, cI K e1 8 (upd sv (Int32.toNatClampNeg (f_find use src prt 8 s0 p0)) sv0), cI K e2 8 pat, cI K e3 8 lu]) rfl ?_
        refine zx_aload_n (pc := 60) hF d_Ent_note_60 rfl 1 rfl ?_
        refine zg_Ent_24 (pc := 61) hF 0 rfl rfl d_Ent_note_61 ?_
        refine zx_iload (pc := 64) hF d_Ent_note_64 0 rfl ?_
        refine zx_topi (nI (Int32.toNatClampNeg (f_find use src prt 8 s0 p0))) ((f_find_cl (by omega) h32).1) ?_
        refine zx_iload (pc := 66) hF d_Ent_note_66 5 rfl ?_
        refine zx_Si (pc := 68) hF (As := [.int fl]) (rest := [.int (nI (Int32.toNatClampNeg (f_find use src prt 8 s0 p0))), .ref e2]) (fun sz => M_Ent_patienceAfter l D K M fl  sz) [] rfl List.nodup_nil (as := []) rfl rfl (ws' := [cO e0 3 [.ref a0, .ref e1, .ref e2, .ref e3], cO a0 6 [.ref a1, .ref a2, .ref a3, .int cnt], cI K a1 8 src, cI K a2 8 prt, cZ K a3 8 use, cI K e1 8 (upd sv (Int32.toNatClampNeg (f_find use src prt 8 s0 p0)) sv0), cI K e2 8 pat, cI K e3 8 lu]) rfl (cw_Ent_40 hF.2.2.2.2.1 rfl rfl ⟨by decide, by decide⟩) rfl rfl (Nat.le_of_ble_eq_true rfl) d_Ent_note_68 ⟨Nat.zero_le _, Nat.zero_le _⟩ ?_
        refine zx_iastn (pc := 71) hF (i := Int32.toNatClampNeg (f_find use src prt 8 s0 p0)) 6 rfl (f_find_cl (by omega) h32).2 (by omega) d_Ent_note_71 (ws' := [cO e0 3 [.ref a0, .ref e1, .ref e2, .ref e3], cO a0 6 [.ref a1, .ref a2, .ref a3, .int cnt], cI K a1 8 src, cI K a2 8 prt, cZ K a3 8 use, cI K e1 8 (upd sv (Int32.toNatClampNeg (f_find use src prt 8 s0 p0)) sv0), cI K e2 8 (upd pat (Int32.toNatClampNeg (f_find use src prt 8 s0 p0)) (f_pat fl)), cI K e3 8 lu]) rfl ?_
        refine zx_aload_n (pc := 72) hF d_Ent_note_72 rfl 1 rfl ?_
        refine zg_Ent_27 (pc := 73) hF 0 rfl rfl d_Ent_note_73 ?_
        refine zx_iload (pc := 76) hF d_Ent_note_76 0 rfl ?_
        refine zx_topi (nI (Int32.toNatClampNeg (f_find use src prt 8 s0 p0))) ((f_find_cl (by omega) h32).1) ?_
        refine zx_iload (pc := 78) hF d_Ent_note_78 6 rfl ?_
        refine zx_iastn (pc := 80) hF (i := Int32.toNatClampNeg (f_find use src prt 8 s0 p0)) 7 rfl (f_find_cl (by omega) h32).2 (by omega) d_Ent_note_80 (ws' := [cO e0 3 [.ref a0, .ref e1, .ref e2, .ref e3], cO a0 6 [.ref a1, .ref a2, .ref a3, .int cnt], cI K a1 8 src, cI K a2 8 prt, cZ K a3 8 use, cI K e1 8 (upd sv (Int32.toNatClampNeg (f_find use src prt 8 s0 p0)) sv0), cI K e2 8 (upd pat (Int32.toNatClampNeg (f_find use src prt 8 s0 p0)) (f_pat fl)), cI K e3 8 (upd lu (Int32.toNatClampNeg (f_find use src prt 8 s0 p0)) t)]) rfl ?_
        exact zx_vret (pc := 81) hF hr hlk (by first | with_reducible rfl | (simp only [f_eput, f_pat, f_enew, f_eslot, f_euse, f_ecnt, f_relu, f_reln, f_put, f_inc, if_neg h3, if_neg h32, if_neg h39]; done) | (simp only [f_eput, f_pat, f_enew, f_eslot, f_euse, f_ecnt, f_relu, f_reln, f_put, f_inc, h3, h32, h39, ↓reduceIte]; done) | simp [f_eput, f_pat, f_enew, f_eslot, f_euse, f_ecnt, f_relu, f_reln, f_put, f_inc, h3, h32, h39]) d_Ent_note_81
      · refine zx_aload_n (pc := 42) hF d_Ent_note_42 rfl 1 rfl ?_
        refine zg_Ent_16 (pc := 43) hF 0 rfl rfl d_Ent_note_43 ?_
        refine zx_iload (pc := 46) hF d_Ent_note_46 0 rfl ?_
        refine zx_topi (nI (Int32.toNatClampNeg (f_find use src prt 8 s0 p0))) ((f_find_cl (by omega) h32).1) ?_
        refine zx_Vv (pc := 48) hF (As := [.int (nI (Int32.toNatClampNeg (f_find use src prt 8 s0 p0)))]) (rest := []) (fun sz => M_Slo_release l D K M a0 a1 a2 a3 8 src prt use cnt (Int32.toNatClampNeg (f_find use src prt 8 s0 p0)) (f_find_cl (by omega) h32).2 (by first | assumption | omega) sz) [1, 2, 3, 4] rfl (by decide) (as := [a0, a1, a2, a3]) rfl rfl (ws' := [cO e0 3 [.ref a0, .ref e1, .ref e2, .ref e3], cO a0 6 [.ref a1, .ref a2, .ref a3, .int (f_rn use cnt (Int32.toNatClampNeg (f_find use src prt 8 s0 p0)))], cI K a1 8 src, cI K a2 8 prt, cZ K a3 8 (f_ru use (Int32.toNatClampNeg (f_find use src prt 8 s0 p0))), cI K e1 8 sv, cI K e2 8 pat, cI K e3 8 lu]) rfl 0 6 rfl rfl rfl (cw_Ent_37 hF.2.2.2.2.1 rfl rfl ⟨by decide, by decide⟩) rfl rfl (Nat.le_of_ble_eq_true rfl) d_Ent_note_48 ⟨Nat.zero_le _, Nat.zero_le _⟩ ?_
        exact zx_vret (pc := 51) hF hr hlk (by first | with_reducible rfl | (simp only [f_eput, f_pat, f_enew, f_eslot, f_euse, f_ecnt, f_relu, f_reln, f_put, f_inc, if_neg h3, if_neg h32, if_pos h39]; done) | (simp only [f_eput, f_pat, f_enew, f_eslot, f_euse, f_ecnt, f_relu, f_reln, f_put, f_inc, h3, h32, h39, ↓reduceIte]; done) | simp [f_eput, f_pat, f_enew, f_eslot, f_euse, f_ecnt, f_relu, f_reln, f_put, f_inc, h3, h32, h39]) d_Ent_note_51
    · exact zx_vret (pc := 35) hF hr hlk (by first | with_reducible rfl | (simp only [f_eput, f_pat, f_enew, f_eslot, f_euse, f_ecnt, f_relu, f_reln, f_put, f_inc, if_neg h3, if_pos h32]; done) | (simp only [f_eput, f_pat, f_enew, f_eslot, f_euse, f_ecnt, f_relu, f_reln, f_put, f_inc, h3, h32, ↓reduceIte]; done) | simp [f_eput, f_pat, f_enew, f_eslot, f_euse, f_ecnt, f_relu, f_reln, f_put, f_inc, h3, h32]) d_Ent_note_35
  · refine zx_aload_n (pc := 6) hF d_Ent_note_6 rfl 0 rfl ?_
    refine zg_Ent_16 (pc := 7) hF 0 rfl rfl d_Ent_note_7 ?_
    refine zx_iload_n (pc := 10) hF d_Ent_note_10 rfl 1 rfl ?_
    refine zx_iload_n (pc := 11) hF d_Ent_note_11 rfl 2 rfl ?_
    refine zx_Vi (pc := 12) hF (As := [.int s0, .int p0]) (rest := []) (fun sz => M_Slo_findOrTake l D K M a0 a1 a2 a3 8 src prt use cnt s0 p0 (by first | assumption | omega) sz) [1, 2, 3, 4] rfl (by decide) (as := [a0, a1, a2, a3]) rfl rfl (ws' := [cO e0 3 [.ref a0, .ref e1, .ref e2, .ref e3], cO a0 6 [.ref a1, .ref a2, .ref a3, .int (f_inc cnt (f_new use src prt 8 s0 p0))], cI K a1 8 (f_put src (f_new use src prt 8 s0 p0) s0), cI K a2 8 (f_put prt (f_new use src prt 8 s0 p0) p0), cZ K a3 8 (f_put use (f_new use src prt 8 s0 p0) 1), cI K e1 8 sv, cI K e2 8 pat, cI K e3 8 lu]) rfl 0 6 rfl rfl rfl (cw_Ent_34 hF.2.2.2.2.1 rfl rfl ⟨by decide, by decide⟩) rfl rfl (Nat.le_of_ble_eq_true rfl) d_Ent_note_12 ⟨Nat.zero_le _, Nat.zero_le _⟩ ?_
    refine zx_goto (pc := 15) hF d_Ent_note_15 (tgt := 27) rfl ?_
    refine zx_istore (pc := 27) hF (lv' := [(6, .int (f_fot use src prt 8 s0 p0)), (0, .ref e0), (1, .int s0), (2, .int p0), (3, .int sv0), (4, .int fl), (5, .int t)]) d_Ent_note_27 (by decide) rfl ?_
    refine zx_iload (pc := 29) hF d_Ent_note_29 0 rfl ?_
    refine zx_iconst (pc := 31) hF d_Ent_note_31 k_im1 ?_
    refine zx_icmp_ne (pc := 32) hF d_Ent_note_32 (tgt := 36) rfl (fun h32 => ?_) (fun h32 => ?_)
    · refine zx_iload (pc := 36) hF d_Ent_note_36 5 rfl ?_
      refine zx_iconst (pc := 38) hF d_Ent_note_38 k_i4 ?_
      refine zx_icmp_ne (pc := 39) hF d_Ent_note_39 (tgt := 52) rfl (fun h39 => ?_) (fun h39 => ?_)
      · refine zx_aload_n (pc := 52) hF d_Ent_note_52 rfl 1 rfl ?_
        refine zg_Ent_20 (pc := 53) hF 0 rfl rfl d_Ent_note_53 ?_
        refine zx_iload (pc := 56) hF d_Ent_note_56 0 rfl ?_
        refine zx_topi (nI (Int32.toNatClampNeg (f_fot use src prt 8 s0 p0))) ((f_fot_cl (by omega) h32).1) ?_
        refine zx_iload_n (pc := 58) hF d_Ent_note_58 rfl 4 rfl ?_
        refine zx_iastn (pc := 59) hF (i := Int32.toNatClampNeg (f_fot use src prt 8 s0 p0)) 5 rfl (f_fot_cl (by omega) h32).2 (by omega) d_Ent_note_59 (ws' := [cO e0 3 [.ref a0, .ref e1, .ref e2, .ref e3], cO a0 6 [.ref a1, .ref a2, .ref a3, .int (f_inc cnt (f_new use src prt 8 s0 p0))], cI K a1 8 (f_put src (f_new use src prt 8 s0 p0) s0), cI K a2 8 (f_put prt (f_new use src prt 8 s0 p0) p0), cZ K a3 8 (f_put use (f_new use src prt 8 s0 p0) 1), cI K e1 8 (upd sv (Int32.toNatClampNeg (f_fot use src prt 8 s0 p0)) sv0), cI K e2 8 pat, cI K e3 8 lu]) rfl ?_
        refine zx_aload_n (pc := 60) hF d_Ent_note_60 rfl 1 rfl ?_
        refine zg_Ent_24 (pc := 61) hF 0 rfl rfl d_Ent_note_61 ?_
        refine zx_iload (pc := 64) hF d_Ent_note_64 0 rfl ?_
        refine zx_topi (nI (Int32.toNatClampNeg (f_fot use src prt 8 s0 p0))) ((f_fot_cl (by omega) h32).1) ?_
        refine zx_iload (pc := 66) hF d_Ent_note_66 5 rfl ?_
        refine zx_Si (pc := 68) hF (As := [.int fl]) (rest := [.int (nI (Int32.toNatClampNeg (f_fot use src prt 8 s0 p0))), .ref e2]) (fun sz => M_Ent_patienceAfter l D K M fl  sz) [] rfl List.nodup_nil (as := []) rfl rfl (ws' := [cO e0 3 [.ref a0, .ref e1, .ref e2, .ref e3], cO a0 6 [.ref a1, .ref a2, .ref a3, .int (f_inc cnt (f_new use src prt 8 s0 p0))], cI K a1 8 (f_put src (f_new use src prt 8 s0 p0) s0), cI K a2 8 (f_put prt (f_new use src prt 8 s0 p0) p0), cZ K a3 8 (f_put use (f_new use src prt 8 s0 p0) 1), cI K e1 8 (upd sv (Int32.toNatClampNeg (f_fot use src prt 8 s0 p0)) sv0), cI K e2 8 pat, cI K e3 8 lu]) rfl (cw_Ent_40 hF.2.2.2.2.1 rfl rfl ⟨by decide, by decide⟩) rfl rfl (Nat.le_of_ble_eq_true rfl) d_Ent_note_68 ⟨Nat.zero_le _, Nat.zero_le _⟩ ?_
        refine zx_iastn (pc := 71) hF (i := Int32.toNatClampNeg (f_fot use src prt 8 s0 p0)) 6 rfl (f_fot_cl (by omega) h32).2 (by omega) d_Ent_note_71 (ws' := [cO e0 3 [.ref a0, .ref e1, .ref e2, .ref e3], cO a0 6 [.ref a1, .ref a2, .ref a3, .int (f_inc cnt (f_new use src prt 8 s0 p0))], cI K a1 8 (f_put src (f_new use src prt 8 s0 p0) s0), cI K a2 8 (f_put prt (f_new use src prt 8 s0 p0) p0), cZ K a3 8 (f_put use (f_new use src prt 8 s0 p0) 1), cI K e1 8 (upd sv (Int32.toNatClampNeg (f_fot use src prt 8 s0 p0)) sv0), cI K e2 8 (upd pat (Int32.toNatClampNeg (f_fot use src prt 8 s0 p0)) (f_pat fl)), cI K e3 8 lu]) rfl ?_
        refine zx_aload_n (pc := 72) hF d_Ent_note_72 rfl 1 rfl ?_
        refine zg_Ent_27 (pc := 73) hF 0 rfl rfl d_Ent_note_73 ?_
        refine zx_iload (pc := 76) hF d_Ent_note_76 0 rfl ?_
        refine zx_topi (nI (Int32.toNatClampNeg (f_fot use src prt 8 s0 p0))) ((f_fot_cl (by omega) h32).1) ?_
        refine zx_iload (pc := 78) hF d_Ent_note_78 6 rfl ?_
        refine zx_iastn (pc := 80) hF (i := Int32.toNatClampNeg (f_fot use src prt 8 s0 p0)) 7 rfl (f_fot_cl (by omega) h32).2 (by omega) d_Ent_note_80 (ws' := [cO e0 3 [.ref a0, .ref e1, .ref e2, .ref e3], cO a0 6 [.ref a1, .ref a2, .ref a3, .int (f_inc cnt (f_new use src prt 8 s0 p0))], cI K a1 8 (f_put src (f_new use src prt 8 s0 p0) s0), cI K a2 8 (f_put prt (f_new use src prt 8 s0 p0) p0), cZ K a3 8 (f_put use (f_new use src prt 8 s0 p0) 1), cI K e1 8 (upd sv (Int32.toNatClampNeg (f_fot use src prt 8 s0 p0)) sv0), cI K e2 8 (upd pat (Int32.toNatClampNeg (f_fot use src prt 8 s0 p0)) (f_pat fl)), cI K e3 8 (upd lu (Int32.toNatClampNeg (f_fot use src prt 8 s0 p0)) t)]) rfl ?_
        exact zx_vret (pc := 81) hF hr hlk (by first | with_reducible rfl | (simp only [f_eput, f_pat, f_enew, f_eslot, f_euse, f_ecnt, f_relu, f_reln, f_put, f_inc, if_pos h3, if_neg h32, if_neg h39]; done) | (simp only [f_eput, f_pat, f_enew, f_eslot, f_euse, f_ecnt, f_relu, f_reln, f_put, f_inc, h3, h32, h39, ↓reduceIte]; done) | simp [f_eput, f_pat, f_enew, f_eslot, f_euse, f_ecnt, f_relu, f_reln, f_put, f_inc, h3, h32, h39]) d_Ent_note_81
      · exact absurd (h3.symm.trans h39) (by decide)
    · exact zx_vret (pc := 35) hF hr hlk (by first | with_reducible rfl | (simp only [f_eput, f_pat, f_enew, f_eslot, f_euse, f_ecnt, f_relu, f_reln, f_put, f_inc, if_pos h3, if_pos h32]; done) | (simp only [f_eput, f_pat, f_enew, f_eslot, f_euse, f_ecnt, f_relu, f_reln, f_put, f_inc, h3, h32, ↓reduceIte]; done) | simp [f_eput, f_pat, f_enew, f_eslot, f_euse, f_ecnt, f_relu, f_reln, f_put, f_inc, h3, h32]) d_Ent_note_35
set_option maxRecDepth 20000 in
theorem M_Ent_removeStale (l : Launch) (D : va_G) (K : Nat → ClassId) (M : List (ClassId × FieldType)) (e0 : Nat) (e1 : Nat) (e2 : Nat) (e3 : Nat) (a0 : Nat) (a1 : Nat) (a2 : Nat) (a3 : Nat) (src : Nat → Int32) (prt : Nat → Int32) (use : Nat → Int32) (cnt : Int32) (sv : Nat → Int32) (pat : Nat → Int32) (lu : Nat → Int32) (t : Int32) (sz : Nat) : zM l y_Ent_removeStale (zT y_Ent_removeStale b_Ent_removeStale 3 none) (zR 1 21) 0 0 D K M [.ref e0, .int t] [cO e0 3 [.ref a0, .ref e1, .ref e2, .ref e3], cO a0 6 [.ref a1, .ref a2, .ref a3, .int cnt], cI K a1 8 src, cI K a2 8 prt, cZ K a3 8 use, cI K e1 8 sv, cI K e2 8 pat, cI K e3 8 lu] sz (zQv D K M [cO e0 3 [.ref a0, .ref e1, .ref e2, .ref e3], cO a0 6 [.ref a1, .ref a2, .ref a3, .int (f_relP (f_old lu pat t) 8 0 use cnt).2], cI K a1 8 src, cI K a2 8 prt, cZ K a3 8 (f_relP (f_old lu pat t) 8 0 use cnt).1, cI K e1 8 sv, cI K e2 8 pat, cI K e3 8 lu]) := by
  refine zx_head (by decide) (Nat.le_of_ble_eq_true rfl) ?_
  intro _ _ _ _ _ _ _ _ _ hF hr hlk hnm
  refine zx_iconst (pc := 0) hF d_Ent_removeStale_0 k_i0 ?_
  refine zx_istore_n (pc := 1) hF (lv' := [(2, .int 0), (0, .ref e0), (1, .int t)]) d_Ent_removeStale_1 rfl (by decide) rfl ?_
  refine zx_lv [1, 2, 0] (lv' := [(0, .ref e0), (1, .int t), (2, .int 0)]) rfl ?_
  refine zx_loop (pc := 2) (σ := Nat × (Nat → Int32) × Int32) (fun k zv => (zv.1 + k = 8) ∧ (f_relP (f_old lu pat t) k zv.1 zv.2.1 zv.2.2 = f_relP (f_old lu pat t) 8 0 use cnt)) (fun zv => [cO e0 3 [.ref a0, .ref e1, .ref e2, .ref e3], cO a0 6 [.ref a1, .ref a2, .ref a3, .int zv.2.2], cI K a1 8 src, cI K a2 8 prt, cZ K a3 8 zv.2.1, cI K e1 8 sv, cI K e2 8 pat, cI K e3 8 lu]) (fun zv => [(0, .ref e0), (1, .int t), (2, .int (nI zv.1))]) 8 (0, use, cnt) ⟨rfl, rfl⟩ rfl rfl ?_
  intro k zv hI ih
  obtain ⟨j, use', cnt'⟩ := zv
  obtain ⟨hk, hX⟩ := hI
  replace hk : j + k = 8 := hk
  replace hX : f_relP (f_old lu pat t) k j use' cnt' = f_relP (f_old lu pat t) 8 0 use cnt := hX
  refine zx_eq (ws' := [cO e0 3 [.ref a0, .ref e1, .ref e2, .ref e3], cO a0 6 [.ref a1, .ref a2, .ref a3, .int cnt'], cI K a1 8 src, cI K a2 8 prt, cZ K a3 8 use', cI K e1 8 sv, cI K e2 8 pat, cI K e3 8 lu]) (lv' := [(0, .ref e0), (1, .int t), (2, .int (nI j))]) rfl rfl rfl ?_
  refine zx_iload_n (pc := 2) hF d_Ent_removeStale_2 rfl 2 rfl ?_
  refine zx_bipush (pc := 3) hF d_Ent_removeStale_3 k_b8 ?_
  refine zx_icmp_ge (pc := 5) hF d_Ent_removeStale_5 (tgt := 39) rfl (fun h5 => ?_) (fun h5 => ?_)
  · replace h5 : 8 ≤ j := (nI_leI (a := 8) (b := j) (by omega) (by omega)).mp h5
    exact zx_vret (pc := 39) hF hr hlk (by obtain rfl : k = 0 := (by omega); rw [← hX]; rfl) d_Ent_removeStale_39
  · replace h5 : ¬ 8 ≤ j := fun z => h5 ((nI_leI (a := 8) (b := j) (by omega) (by omega)).mpr z)
    refine zx_iload_n (pc := 8) hF d_Ent_removeStale_8 rfl 1 rfl ?_
    refine zx_aload_n (pc := 9) hF d_Ent_removeStale_9 rfl 0 rfl ?_
    refine zg_Ent_27 (pc := 10) hF 0 rfl rfl d_Ent_removeStale_10 ?_
    refine zx_iload_n (pc := 13) hF d_Ent_removeStale_13 rfl 2 rfl ?_
    refine zx_ialdn (pc := 14) hF (i := j) 7 rfl (by omega) (by omega) d_Ent_removeStale_14 ?_
    refine zx_isub (pc := 15) hF d_Ent_removeStale_15 ?_
    refine zx_aload_n (pc := 16) hF d_Ent_removeStale_16 rfl 0 rfl ?_
    refine zg_Ent_24 (pc := 17) hF 0 rfl rfl d_Ent_removeStale_17 ?_
    refine zx_iload_n (pc := 20) hF d_Ent_removeStale_20 rfl 2 rfl ?_
    refine zx_ialdn (pc := 21) hF (i := j) 6 rfl (by omega) (by omega) d_Ent_removeStale_21 ?_
    refine zx_icmp_le (pc := 22) hF d_Ent_removeStale_22 (tgt := 33) rfl (fun h22 => ?_) (fun h22 => ?_)
    · refine zx_iinc (pc := 33) hF (v := nI (j + 1)) (lv' := [(2, .int (nI (j + 1))), (0, .ref e0), (1, .int t)]) d_Ent_removeStale_33 2 rfl (zinc j) (by decide) rfl ?_
      refine zx_goto (pc := 36) hF d_Ent_removeStale_36 (tgt := 2) rfl ?_
      refine zx_lv [1, 2, 0] (lv' := [(0, .ref e0), (1, .int t), (2, .int (nI (j + 1)))]) rfl ?_
      exact ih (k - 1) (j + 1, use', cnt') (by omega) ⟨by first | omega | (dsimp only; omega) | dsimp only, by obtain ⟨k', rfl⟩ : ∃ k', k = k' + 1 := ⟨k - 1, by omega⟩; simpa [f_relP, f_old, f_dn, h5, h22] using hX⟩
    · refine zx_aload_n (pc := 25) hF d_Ent_removeStale_25 rfl 0 rfl ?_
      refine zg_Ent_16 (pc := 26) hF 0 rfl rfl d_Ent_removeStale_26 ?_
      refine zx_iload_n (pc := 29) hF d_Ent_removeStale_29 rfl 2 rfl ?_
      refine zx_Vv (pc := 30) hF (As := [.int (nI j)]) (rest := []) (fun sz => M_Slo_release l D K M a0 a1 a2 a3 8 src prt use' cnt' j (by first | assumption | omega) (by first | assumption | omega) sz) [1, 2, 3, 4] rfl (by decide) (as := [a0, a1, a2, a3]) rfl rfl (ws' := [cO e0 3 [.ref a0, .ref e1, .ref e2, .ref e3], cO a0 6 [.ref a1, .ref a2, .ref a3, .int (f_rn use' cnt' j)], cI K a1 8 src, cI K a2 8 prt, cZ K a3 8 (f_ru use' j), cI K e1 8 sv, cI K e2 8 pat, cI K e3 8 lu]) rfl 0 6 rfl rfl rfl (cw_Ent_37 hF.2.2.2.2.1 rfl rfl ⟨by decide, by decide⟩) rfl rfl (Nat.le_of_ble_eq_true rfl) d_Ent_removeStale_30 ⟨Nat.zero_le _, Nat.zero_le _⟩ ?_
      refine zx_iinc (pc := 33) hF (v := nI (j + 1)) (lv' := [(2, .int (nI (j + 1))), (0, .ref e0), (1, .int t)]) d_Ent_removeStale_33 2 rfl (zinc j) (by decide) rfl ?_
      refine zx_goto (pc := 36) hF d_Ent_removeStale_36 (tgt := 2) rfl ?_
      refine zx_lv [1, 2, 0] (lv' := [(0, .ref e0), (1, .int t), (2, .int (nI (j + 1)))]) rfl ?_
      exact ih (k - 1) (j + 1, f_ru use' j, f_rn use' cnt' j) (by omega) ⟨by first | omega | (dsimp only; omega) | dsimp only, by obtain ⟨k', rfl⟩ : ∃ k', k = k' + 1 := ⟨k - 1, by omega⟩; simpa [f_relP, f_old, f_dn, h5, h22] using hX⟩
set_option maxRecDepth 20000 in
theorem M_Ent_removeForServersDown (l : Launch) (D : va_G) (K : Nat → ClassId) (M : List (ClassId × FieldType)) (e0 : Nat) (e1 : Nat) (e2 : Nat) (e3 : Nat) (a0 : Nat) (a1 : Nat) (a2 : Nat) (a3 : Nat) (src : Nat → Int32) (prt : Nat → Int32) (use : Nat → Int32) (cnt : Int32) (sv : Nat → Int32) (pat : Nat → Int32) (lu : Nat → Int32) (w0 : Nat) (w1 : Nat) (w2 : Nat) (n : Nat) (up : Nat → Int32) (con : Nat → Int32) (hn : n < 2 ^ 31) (hu : z01 up) (hv : ∀ j, j < 8 → vp_in (sv j) n) (sz : Nat) : zM l y_Ent_removeForServersDown (zT y_Ent_removeForServersDown b_Ent_removeForServersDown 3 none) (zR 1 21) 0 0 D K M [.ref e0, .ref w0] [cO e0 3 [.ref a0, .ref e1, .ref e2, .ref e3], cO a0 6 [.ref a1, .ref a2, .ref a3, .int cnt], cI K a1 8 src, cI K a2 8 prt, cZ K a3 8 use, cI K e1 8 sv, cI K e2 8 pat, cI K e3 8 lu, cO w0 9 [.ref w1, .ref w2], cZ K w1 n up, cI K w2 n con] sz (zQv D K M [cO e0 3 [.ref a0, .ref e1, .ref e2, .ref e3], cO a0 6 [.ref a1, .ref a2, .ref a3, .int (f_relP (f_dn up sv) 8 0 use cnt).2], cI K a1 8 src, cI K a2 8 prt, cZ K a3 8 (f_relP (f_dn up sv) 8 0 use cnt).1, cI K e1 8 sv, cI K e2 8 pat, cI K e3 8 lu, cO w0 9 [.ref w1, .ref w2], cZ K w1 n up, cI K w2 n con]) := by
  refine zx_head (by decide) (Nat.le_of_ble_eq_true rfl) ?_
  intro _ _ _ _ _ _ _ _ _ hF hr hlk hnm
  refine zx_iconst (pc := 0) hF d_Ent_removeForServersDown_0 k_i0 ?_
  refine zx_istore_n (pc := 1) hF (lv' := [(2, .int 0), (0, .ref e0), (1, .ref w0)]) d_Ent_removeForServersDown_1 rfl (by decide) rfl ?_
  refine zx_lv [1, 2, 0] (lv' := [(0, .ref e0), (1, .ref w0), (2, .int 0)]) rfl ?_
  refine zx_loop (pc := 2) (σ := Nat × (Nat → Int32) × Int32) (fun k zv => (zv.1 + k = 8) ∧ (f_relP (f_dn up sv) k zv.1 zv.2.1 zv.2.2 = f_relP (f_dn up sv) 8 0 use cnt)) (fun zv => [cO e0 3 [.ref a0, .ref e1, .ref e2, .ref e3], cO a0 6 [.ref a1, .ref a2, .ref a3, .int zv.2.2], cI K a1 8 src, cI K a2 8 prt, cZ K a3 8 zv.2.1, cI K e1 8 sv, cI K e2 8 pat, cI K e3 8 lu, cO w0 9 [.ref w1, .ref w2], cZ K w1 n up, cI K w2 n con]) (fun zv => [(0, .ref e0), (1, .ref w0), (2, .int (nI zv.1))]) 8 (0, use, cnt) ⟨rfl, rfl⟩ rfl rfl ?_
  intro k zv hI ih
  obtain ⟨j, use', cnt'⟩ := zv
  obtain ⟨hk, hX⟩ := hI
  replace hk : j + k = 8 := hk
  replace hX : f_relP (f_dn up sv) k j use' cnt' = f_relP (f_dn up sv) 8 0 use cnt := hX
  refine zx_eq (ws' := [cO e0 3 [.ref a0, .ref e1, .ref e2, .ref e3], cO a0 6 [.ref a1, .ref a2, .ref a3, .int cnt'], cI K a1 8 src, cI K a2 8 prt, cZ K a3 8 use', cI K e1 8 sv, cI K e2 8 pat, cI K e3 8 lu, cO w0 9 [.ref w1, .ref w2], cZ K w1 n up, cI K w2 n con]) (lv' := [(0, .ref e0), (1, .ref w0), (2, .int (nI j))]) rfl rfl rfl ?_
  refine zx_iload_n (pc := 2) hF d_Ent_removeForServersDown_2 rfl 2 rfl ?_
  refine zx_bipush (pc := 3) hF d_Ent_removeForServersDown_3 k_b8 ?_
  refine zx_icmp_ge (pc := 5) hF d_Ent_removeForServersDown_5 (tgt := 35) rfl (fun h5 => ?_) (fun h5 => ?_)
  · replace h5 : 8 ≤ j := (nI_leI (a := 8) (b := j) (by omega) (by omega)).mp h5
    exact zx_vret (pc := 35) hF hr hlk (by obtain rfl : k = 0 := (by omega); rw [← hX]; rfl) d_Ent_removeForServersDown_35
  · replace h5 : ¬ 8 ≤ j := fun z => h5 ((nI_leI (a := 8) (b := j) (by omega) (by omega)).mpr z)
    refine zx_aload_n (pc := 8) hF d_Ent_removeForServersDown_8 rfl 1 rfl ?_
    refine zx_aload_n (pc := 9) hF d_Ent_removeForServersDown_9 rfl 0 rfl ?_
    refine zg_Ent_20 (pc := 10) hF 0 rfl rfl d_Ent_removeForServersDown_10 ?_
    refine zx_iload_n (pc := 13) hF d_Ent_removeForServersDown_13 rfl 2 rfl ?_
    refine zx_ialdn (pc := 14) hF (i := j) 5 rfl (by omega) (by omega) d_Ent_removeForServersDown_14 ?_
    refine zx_topi (nI (Int32.toNatClampNeg (sv j))) ((zcl hn (hv j (by omega))).1) ?_
    refine zx_Vi (pc := 15) hF (As := [.int (nI (Int32.toNatClampNeg (sv j)))]) (rest := []) (fun sz => M_Wat_isUp l D K M w0 w1 w2 n up con (Int32.toNatClampNeg (sv j)) (zcl hn (hv j (by omega))).2 (by first | assumption | omega) (by first | assumption | omega) sz) [8, 9, 10] rfl (by decide) (as := [w0, w1, w2]) rfl rfl (ws' := [cO e0 3 [.ref a0, .ref e1, .ref e2, .ref e3], cO a0 6 [.ref a1, .ref a2, .ref a3, .int cnt'], cI K a1 8 src, cI K a2 8 prt, cZ K a3 8 use', cI K e1 8 sv, cI K e2 8 pat, cI K e3 8 lu, cO w0 9 [.ref w1, .ref w2], cZ K w1 n up, cI K w2 n con]) rfl 0 9 rfl rfl rfl (cw_Ent_44 hF.2.2.2.2.1 rfl rfl ⟨by decide, by decide⟩) rfl rfl (Nat.le_of_ble_eq_true rfl) d_Ent_removeForServersDown_15 ⟨Nat.zero_le _, Nat.zero_le _⟩ ?_
    refine zx_if_ne (pc := 18) hF d_Ent_removeForServersDown_18 (tgt := 29) rfl (fun h18 => ?_) (fun h18 => ?_)
    · refine zx_iinc (pc := 29) hF (v := nI (j + 1)) (lv' := [(2, .int (nI (j + 1))), (0, .ref e0), (1, .ref w0)]) d_Ent_removeForServersDown_29 2 rfl (zinc j) (by decide) rfl ?_
      refine zx_goto (pc := 32) hF d_Ent_removeForServersDown_32 (tgt := 2) rfl ?_
      refine zx_lv [1, 2, 0] (lv' := [(0, .ref e0), (1, .ref w0), (2, .int (nI (j + 1)))]) rfl ?_
      exact ih (k - 1) (j + 1, use', cnt') (by omega) ⟨by first | omega | (dsimp only; omega) | dsimp only, by obtain ⟨k', rfl⟩ : ∃ k', k = k' + 1 := ⟨k - 1, by omega⟩; simpa [f_relP, f_old, f_dn, h5, h18] using hX⟩
    · refine zx_aload_n (pc := 21) hF d_Ent_removeForServersDown_21 rfl 0 rfl ?_
      refine zg_Ent_16 (pc := 22) hF 0 rfl rfl d_Ent_removeForServersDown_22 ?_
      refine zx_iload_n (pc := 25) hF d_Ent_removeForServersDown_25 rfl 2 rfl ?_
      refine zx_Vv (pc := 26) hF (As := [.int (nI j)]) (rest := []) (fun sz => M_Slo_release l D K M a0 a1 a2 a3 8 src prt use' cnt' j (by first | assumption | omega) (by first | assumption | omega) sz) [1, 2, 3, 4] rfl (by decide) (as := [a0, a1, a2, a3]) rfl rfl (ws' := [cO e0 3 [.ref a0, .ref e1, .ref e2, .ref e3], cO a0 6 [.ref a1, .ref a2, .ref a3, .int (f_rn use' cnt' j)], cI K a1 8 src, cI K a2 8 prt, cZ K a3 8 (f_ru use' j), cI K e1 8 sv, cI K e2 8 pat, cI K e3 8 lu, cO w0 9 [.ref w1, .ref w2], cZ K w1 n up, cI K w2 n con]) rfl 0 6 rfl rfl rfl (cw_Ent_37 hF.2.2.2.2.1 rfl rfl ⟨by decide, by decide⟩) rfl rfl (Nat.le_of_ble_eq_true rfl) d_Ent_removeForServersDown_26 ⟨Nat.zero_le _, Nat.zero_le _⟩ ?_
      refine zx_iinc (pc := 29) hF (v := nI (j + 1)) (lv' := [(2, .int (nI (j + 1))), (0, .ref e0), (1, .ref w0)]) d_Ent_removeForServersDown_29 2 rfl (zinc j) (by decide) rfl ?_
      refine zx_goto (pc := 32) hF d_Ent_removeForServersDown_32 (tgt := 2) rfl ?_
      refine zx_lv [1, 2, 0] (lv' := [(0, .ref e0), (1, .ref w0), (2, .int (nI (j + 1)))]) rfl ?_
      exact ih (k - 1) (j + 1, f_ru use' j, f_rn use' cnt' j) (by omega) ⟨by first | omega | (dsimp only; omega) | dsimp only, by obtain ⟨k', rfl⟩ : ∃ k', k = k' + 1 := ⟨k - 1, by omega⟩; simpa [f_relP, f_old, f_dn, h5, h18] using hX⟩
set_option maxRecDepth 20000 in
theorem M_Srv_setOn (l : Launch) (D : va_G) (K : Nat → ClassId) (M : List (ClassId × FieldType)) (v0 : Nat) (v1 : Nat) (v2 : Nat) (t0 : Nat) (a0 : Nat) (a1 : Nat) (a2 : Nat) (a3 : Nat) (src : Nat → Int32) (prt : Nat → Int32) (use : Nat → Int32) (cnt : Int32) (on : Int32) (tk : Int32) (nx : Nat → Int32) (dt : Nat → Int32) (o : Int32) (ho : o = 0 ∨ o = 1) (sz : Nat) : zM l y_Srv_setOn (zT y_Srv_setOn b_Srv_setOn 2 (some .boolean)) (zR 2 42) 0 0 D K M [.ref v0, .int o] [cO v0 5 [.ref a0, .ref t0, .int on, .int tk, .ref v1, .ref v2], cO a0 6 [.ref a1, .ref a2, .ref a3, .int cnt], cI K a1 10 src, cI K a2 10 prt, cZ K a3 10 use, cI K v1 10 nx, cI K v2 10 dt] sz (zQi D K M (f_seton on o) [cO v0 5 [.ref a0, .ref t0, .int o, .int tk, .ref v1, .ref v2], cO a0 6 [.ref a1, .ref a2, .ref a3, .int (f_onuse on o use cnt).2], cI K a1 10 src, cI K a2 10 prt, cZ K a3 10 (f_onuse on o use cnt).1, cI K v1 10 nx, cI K v2 10 dt]) := by
  refine zx_head (by decide) (Nat.le_of_ble_eq_true rfl) ?_
  intro _ _ _ _ _ _ _ _ _ hF hr hlk hnm
  refine zx_aload_n (pc := 0) hF d_Srv_setOn_0 rfl 0 rfl ?_
  refine zg_Srv_27 (pc := 1) hF 0 rfl rfl d_Srv_setOn_1 ?_
  refine zx_iload_n (pc := 4) hF d_Srv_setOn_4 rfl 1 rfl ?_
  refine zx_icmp_ne (pc := 5) hF d_Srv_setOn_5 (tgt := 10) rfl (fun h5 => ?_) (fun h5 => ?_)
  · refine zx_aload_n (pc := 10) hF d_Srv_setOn_10 rfl 0 rfl ?_
    refine zx_iload_n (pc := 11) hF d_Srv_setOn_11 rfl 1 rfl ?_
    refine zp_Srv_27 (pc := 12) hF 0 rfl ho (Nat.le_of_ble_eq_true rfl) d_Srv_setOn_12 (ws' := [cO v0 5 [.ref a0, .ref t0, .int o, .int tk, .ref v1, .ref v2], cO a0 6 [.ref a1, .ref a2, .ref a3, .int cnt], cI K a1 10 src, cI K a2 10 prt, cZ K a3 10 use, cI K v1 10 nx, cI K v2 10 dt]) rfl ?_
    refine zx_iload_n (pc := 15) hF d_Srv_setOn_15 rfl 1 rfl ?_
    refine zx_if_ne (pc := 16) hF d_Srv_setOn_16 (tgt := 26) rfl (fun h16 => ?_) (fun h16 => ?_)
    · refine zx_iconst (pc := 26) hF d_Srv_setOn_26 k_i1 ?_
      exact zx_zret (pc := 27) hF hr hlk rfl (by first | with_reducible rfl | (simp only [f_seton, f_onuse, if_neg h5, if_neg h16]; done) | (simp only [f_seton, f_onuse, h5, h16, ↓reduceIte]; done) | simp [f_seton, f_onuse, h5, h16]) (by first | with_reducible rfl | (simp only [f_seton, f_onuse, if_neg h5, if_neg h16]; done) | (simp only [f_seton, f_onuse, h5, h16, ↓reduceIte]; done) | simp [f_seton, f_onuse, h5, h16]) d_Srv_setOn_27
    · refine zx_aload_n (pc := 19) hF d_Srv_setOn_19 rfl 0 rfl ?_
      refine zg_Srv_16 (pc := 20) hF 0 rfl rfl d_Srv_setOn_20 ?_
      refine zx_Vv (pc := 23) hF (As := []) (rest := []) (fun sz => M_Slo_releaseAll l D K M a0 a1 a2 a3 10 src prt use cnt (by first | assumption | omega) sz) [1, 2, 3, 4] rfl (by decide) (as := [a0, a1, a2, a3]) rfl rfl (ws' := [cO v0 5 [.ref a0, .ref t0, .int o, .int tk, .ref v1, .ref v2], cO a0 6 [.ref a1, .ref a2, .ref a3, .int (f_all 10 0 use cnt).2], cI K a1 10 src, cI K a2 10 prt, cZ K a3 10 (f_all 10 0 use cnt).1, cI K v1 10 nx, cI K v2 10 dt]) rfl 0 6 rfl rfl rfl (cw_Srv_38 hF.2.2.2.2.1 rfl rfl ⟨by decide, by decide⟩) rfl rfl (Nat.le_of_ble_eq_true rfl) d_Srv_setOn_23 ⟨Nat.zero_le _, Nat.zero_le _⟩ ?_
      refine zx_iconst (pc := 26) hF d_Srv_setOn_26 k_i1 ?_
      exact zx_zret (pc := 27) hF hr hlk rfl (by first | with_reducible rfl | (simp only [f_seton, f_onuse, if_neg h5, if_pos h16]; done) | (simp only [f_seton, f_onuse, h5, h16, ↓reduceIte]; done) | simp [f_seton, f_onuse, h5, h16]) (by first | with_reducible rfl | (simp only [f_seton, f_onuse, if_neg h5, if_pos h16]; done) | (simp only [f_seton, f_onuse, h5, h16, ↓reduceIte]; done) | simp [f_seton, f_onuse, h5, h16]) d_Srv_setOn_27
  · refine zx_iconst (pc := 8) hF d_Srv_setOn_8 k_i0 ?_
    exact zx_zret (pc := 9) hF hr hlk rfl (by first | with_reducible rfl | (simp only [f_seton, f_onuse, if_pos h5]; done) | (simp only [f_seton, f_onuse, h5, ↓reduceIte]; done) | simp [f_seton, f_onuse, h5]) (by first | with_reducible rfl | (simp only [f_seton, f_onuse, if_pos h5]; done) | (simp only [f_seton, f_onuse, h5, ↓reduceIte]; done) | simp [f_seton, f_onuse, h5]) d_Srv_setOn_9
set_option maxRecDepth 20000 in
theorem M_Srv_greet (l : Launch) (D : va_G) (K : Nat → ClassId) (M : List (ClassId × FieldType)) (v0 : Nat) (v1 : Nat) (v2 : Nat) (t0 : Nat) (a0 : Nat) (a1 : Nat) (a2 : Nat) (a3 : Nat) (src : Nat → Int32) (prt : Nat → Int32) (use : Nat → Int32) (cnt : Int32) (on : Int32) (tk : Int32) (nx : Nat → Int32) (dt : Nat → Int32) (j : Int32) (sq : Int32) (hj : ¬ j = -1 → vp_in j 10) (sz : Nat) : zM l y_Srv_greet (zT y_Srv_greet b_Srv_greet 3 (some .int)) (zR 0 0) 0 0 D K M [.ref v0, .int j, .int sq] [cO v0 5 [.ref a0, .ref t0, .int on, .int tk, .ref v1, .ref v2], cO a0 6 [.ref a1, .ref a2, .ref a3, .int cnt], cI K a1 10 src, cI K a2 10 prt, cZ K a3 10 use, cI K v1 10 nx, cI K v2 10 dt] sz (zQi D K M (f_gr j) [cO v0 5 [.ref a0, .ref t0, .int on, .int tk, .ref v1, .ref v2], cO a0 6 [.ref a1, .ref a2, .ref a3, .int cnt], cI K a1 10 src, cI K a2 10 prt, cZ K a3 10 use, cI K v1 10 (f_put nx j (sq + 1)), cI K v2 10 (f_put dt j 0)]) := by
  refine zx_head (by decide) (Nat.le_of_ble_eq_true rfl) ?_
  intro _ _ _ _ _ _ _ _ _ hF hr hlk hnm
  refine zx_iload_n (pc := 0) hF d_Srv_greet_0 rfl 1 rfl ?_
  refine zx_iconst (pc := 1) hF d_Srv_greet_1 k_im1 ?_
  refine zx_icmp_ne (pc := 2) hF d_Srv_greet_2 (tgt := 7) rfl (fun h2 => ?_) (fun h2 => ?_)
  · refine zx_aload_n (pc := 7) hF d_Srv_greet_7 rfl 0 rfl ?_
    refine zg_Srv_31 (pc := 8) hF 0 rfl rfl d_Srv_greet_8 ?_
    refine zx_iload_n (pc := 11) hF d_Srv_greet_11 rfl 1 rfl ?_
    refine zx_iload_n (pc := 12) hF d_Srv_greet_12 rfl 2 rfl ?_
    refine zx_iconst (pc := 13) hF d_Srv_greet_13 k_i1 ?_
    refine zx_iadd (pc := 14) hF d_Srv_greet_14 ?_
    refine zx_iast (pc := 15) hF 5 rfl (hj h2) d_Srv_greet_15 (ws' := [cO v0 5 [.ref a0, .ref t0, .int on, .int tk, .ref v1, .ref v2], cO a0 6 [.ref a1, .ref a2, .ref a3, .int cnt], cI K a1 10 src, cI K a2 10 prt, cZ K a3 10 use, cI K v1 10 (upd nx (Int32.toNatClampNeg j) (sq + 1)), cI K v2 10 dt]) rfl ?_
    refine zx_aload_n (pc := 16) hF d_Srv_greet_16 rfl 0 rfl ?_
    refine zg_Srv_35 (pc := 17) hF 0 rfl rfl d_Srv_greet_17 ?_
    refine zx_iload_n (pc := 20) hF d_Srv_greet_20 rfl 1 rfl ?_
    refine zx_iconst (pc := 21) hF d_Srv_greet_21 k_i0 ?_
    refine zx_iast (pc := 22) hF 6 rfl (hj h2) d_Srv_greet_22 (ws' := [cO v0 5 [.ref a0, .ref t0, .int on, .int tk, .ref v1, .ref v2], cO a0 6 [.ref a1, .ref a2, .ref a3, .int cnt], cI K a1 10 src, cI K a2 10 prt, cZ K a3 10 use, cI K v1 10 (upd nx (Int32.toNatClampNeg j) (sq + 1)), cI K v2 10 (upd dt (Int32.toNatClampNeg j) 0)]) rfl ?_
    refine zx_iconst (pc := 23) hF d_Srv_greet_23 k_i1 ?_
    exact zx_iret (pc := 24) hF hr hlk (by first | with_reducible rfl | (simp only [f_gr, f_put, if_neg h2]; done) | (simp only [f_gr, f_put, h2, ↓reduceIte]; done) | simp [f_gr, f_put, h2]) (by first | with_reducible rfl | (simp only [f_gr, f_put, if_neg h2]; done) | (simp only [f_gr, f_put, h2, ↓reduceIte]; done) | simp [f_gr, f_put, h2]) d_Srv_greet_24
  · refine zx_iconst (pc := 5) hF d_Srv_greet_5 k_i4 ?_
    exact zx_iret (pc := 6) hF hr hlk (by first | with_reducible rfl | (simp only [f_gr, f_put, if_pos h2]; done) | (simp only [f_gr, f_put, h2, ↓reduceIte]; done) | simp [f_gr, f_put, h2]) (by first | with_reducible rfl | (simp only [f_gr, f_put, if_pos h2]; done) | (simp only [f_gr, f_put, h2, ↓reduceIte]; done) | simp [f_gr, f_put, h2]) d_Srv_greet_6
