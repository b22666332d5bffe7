set_option maxRecDepth 20000 in
theorem M_PS_tick (l : Launch) (D : va_G) (K : Nat → ClassId) (KB KS : ClassId) (ps0 : Nat) (dg0 : Nat) (ba0 : Nat) (sa0 : Nat) (m : Nat) (kp0 : Nat) (wi0 : Nat) (hkp : Int32) (lca : Int32) (lre : Int32) (lta : Int32) (tim : Int32) (B : Nat) (rb : Nat → Option Nat) (n : Nat) (l0 : Nat) (aB : Nat → Nat → Nat) (bs : Nat → Nat → Int32) (bf : Nat → Nat → Nat → Int32) (T : va_W) (t : Int32) (hB : B ≤ 4) (ht : ¬ t < 0 ∧ t ≤ 1000) (hrb : ∀ j, j < B → rb j = some (aB j 0)) (sz : Nat) : zM l y_PS_tick (zT y_PS_tick b_PS_tick 3 (some .boolean)) (zR 2 43) 0 0 D K (zM2 KB KS) [.ref ps0, .int t] (cO ps0 0 [.ref dg0, .ref ba0, .ref sa0, .int (nI m), .ref kp0, .ref wi0, .int hkp, .int lca, .int lre, .int lta, .int tim] :: cR KB ba0 B rb :: (bLs K l0 m n aB bs bf (List.range B) ++ T)) sz (zQi D K (zM2 KB KS) 1 (cO ps0 0 [.ref dg0, .ref ba0, .ref sa0, .int (nI m), .ref kp0, .ref wi0, .int hkp, .int lca, .int lre, .int lta, .int (tim + t)] :: cR KB ba0 B rb :: (bLs K l0 m n aB (tkB (tim + t) bs bf B) (tkF (tim + t) bs bf B) (List.range B) ++ T))) := by
  refine zx_head (by decide) (Nat.le_of_ble_eq_true rfl) ?_
  intro _ _ _ _ _ _ _ _ _ hF hr hlk hnm
  refine zx_iload_n (pc := 0) hF d_PS_tick_0 rfl 1 rfl ?_
  refine zx_if_lt (pc := 1) hF d_PS_tick_1 (tgt := 11) rfl (fun h1 => ?_) (fun h1 => ?_)
  · exact absurd ht (fun z => by first | exact z.1 h1 | exact h8 z.2)
  · refine zx_iload_n (pc := 4) hF d_PS_tick_4 rfl 1 rfl ?_
    refine zx_sipush (pc := 5) hF d_PS_tick_5 k_s1000 ?_
    refine zx_icmp_le (pc := 8) hF d_PS_tick_8 (tgt := 13) rfl (fun h8 => ?_) (fun h8 => ?_)
    · refine zx_aload_n (pc := 13) hF d_PS_tick_13 rfl 0 rfl ?_
      refine zx_dup (pc := 14) hF d_PS_tick_14 rfl ?_
      refine zg_PS_112 (pc := 15) hF 0 rfl rfl d_PS_tick_15 ?_
      refine zx_iload_n (pc := 18) hF d_PS_tick_18 rfl 1 rfl ?_
      refine zx_iadd (pc := 19) hF d_PS_tick_19 ?_
      refine zp_PS_112 (pc := 20) hF 0 rfl (Nat.le_of_ble_eq_true rfl) d_PS_tick_20 (ws' := (cO ps0 0 [.ref dg0, .ref ba0, .ref sa0, .int (nI m), .ref kp0, .ref wi0, .int hkp, .int lca, .int lre, .int lta, .int (tim + t)] :: cR KB ba0 B rb :: (bLs K l0 m n aB bs bf (List.range B) ++ T))) rfl ?_
      refine zx_eq (ws' := (cO ps0 0 [.ref dg0, .ref ba0, .ref sa0, .int (nI m), .ref kp0, .ref wi0, .int hkp, .int lca, .int lre, .int lta, .int (tim + t)] :: cR KB ba0 B rb :: (bLs K l0 m n aB (tkB (tim + t) bs bf 0) (tkF (tim + t) bs bf 0) (List.range B) ++ T))) (lv' := [(0, .ref ps0), (1, .int t)]) (by rw [tkB_0, tkF_0]) rfl rfl ?_
      refine zx_iconst (pc := 23) hF d_PS_tick_23 k_i0 ?_
      refine zx_istore_n (pc := 24) hF (lv' := [(2, .int 0), (0, .ref ps0), (1, .int t)]) d_PS_tick_24 rfl (by decide) rfl ?_
      refine zx_lv [1, 2, 0] (lv' := [(0, .ref ps0), (1, .int t), (2, .int 0)]) rfl ?_
      refine zx_loop (pc := 25) (σ := Nat) (fun k zv => (zv + k = B)) (fun zv => (cO ps0 0 [.ref dg0, .ref ba0, .ref sa0, .int (nI m), .ref kp0, .ref wi0, .int hkp, .int lca, .int lre, .int lta, .int (tim + t)] :: cR KB ba0 B rb :: (bLs K l0 m n aB (tkB (tim + t) bs bf zv) (tkF (tim + t) bs bf zv) (List.range B) ++ T))) (fun zv => [(0, .ref ps0), (1, .int t), (2, .int (nI zv))]) B 0 (by first | omega | (dsimp only; omega) | dsimp only) rfl rfl ?_
      intro k j hI ih
      have hk := hI
      replace hk : j + k = B := hk
      refine zx_eq (ws' := (cO ps0 0 [.ref dg0, .ref ba0, .ref sa0, .int (nI m), .ref kp0, .ref wi0, .int hkp, .int lca, .int lre, .int lta, .int (tim + t)] :: cR KB ba0 B rb :: (bLs K l0 m n aB (tkB (tim + t) bs bf j) (tkF (tim + t) bs bf j) (List.range B) ++ T))) (lv' := [(0, .ref ps0), (1, .int t), (2, .int (nI j))]) rfl rfl rfl ?_
      refine zx_iload_n (pc := 25) hF d_PS_tick_25 rfl 2 rfl ?_
      refine zx_aload_n (pc := 26) hF d_PS_tick_26 rfl 0 rfl ?_
      refine zg_PS_66 (pc := 27) hF 0 rfl rfl d_PS_tick_27 ?_
      refine zx_alen (pc := 30) hF 1 3 rfl rfl (v := nI B) rfl d_PS_tick_30 ?_
      refine zx_icmp_ge (pc := 31) hF d_PS_tick_31 (tgt := 56) rfl (fun h31 => ?_) (fun h31 => ?_)
      · replace h31 : B ≤ j := (nI_leI (a := B) (b := j) (by omega) (by omega)).mp h31
        refine zx_iconst (pc := 56) hF d_PS_tick_56 k_i1 ?_
        exact zx_zret (pc := 57) hF hr hlk rfl rfl (by obtain rfl : k = 0 := (by omega); obtain rfl : j = B := (by omega); rfl) d_PS_tick_57
      · replace h31 : ¬ B ≤ j := fun z => h31 ((nI_leI (a := B) (b := j) (by omega) (by omega)).mpr z)
        refine zx_perm (ws' := (cO ps0 0 [.ref dg0, .ref ba0, .ref sa0, .int (nI m), .ref kp0, .ref wi0, .int hkp, .int lca, .int lre, .int lta, .int (tim + t)] :: cR KB ba0 B rb :: cO (aB j 0) 1 [.ref (aB j 1), .ref (aB j 4), .ref (aB j 8), .ref (aB j 16), .int (bs j 0), .ref (aB j 17)] :: cO (aB j 1) 9 [.ref (aB j 2), .ref (aB j 3)] :: cZ K (aB j 2) n (bf j 0) :: cI K (aB j 3) n (bf j 1) :: cO (aB j 4) 8 [.int (bs j 1), .ref l0, .ref (aB j 5), .ref (aB j 6), .ref (aB j 7)] :: cI K (aB j 5) m (bf j 2) :: cI K (aB j 6) m (bf j 3) :: cI K (aB j 7) n (bf j 4) :: cO (aB j 8) 3 [.ref (aB j 9), .ref (aB j 13), .ref (aB j 14), .ref (aB j 15)] :: cO (aB j 9) 6 [.ref (aB j 10), .ref (aB j 11), .ref (aB j 12), .int (bs j 2)] :: cI K (aB j 10) 8 (bf j 5) :: cI K (aB j 11) 8 (bf j 6) :: cZ K (aB j 12) 8 (bf j 7) :: cI K (aB j 13) 8 (bf j 8) :: cI K (aB j 14) 8 (bf j 9) :: cI K (aB j 15) 8 (bf j 10) :: cO (aB j 16) 7 [.int (bs j 3)] :: cZ K (aB j 17) n (bf j 11) :: (bLs K l0 m n aB (tkB (tim + t) bs bf j) (tkF (tim + t) bs bf j) ((List.range B).erase j) ++ T))) (tk_foc (by omega)) ?_
        refine zx_aload_n (pc := 34) hF d_PS_tick_34 rfl 0 rfl ?_
        refine zg_PS_66 (pc := 35) hF 0 rfl rfl d_PS_tick_35 ?_
        refine zx_iload_n (pc := 38) hF d_PS_tick_38 rfl 2 rfl ?_
        refine zx_aldq (pc := 39) hF 1 3 rfl rfl (vp_in_nI (by omega) (by omega)) (by rw [nI_clamp (by omega)]; exact (hrb j (by omega))) d_PS_tick_39 ?_
        refine zg_PS_108 (pc := 40) hF 2 rfl rfl d_PS_tick_40 ?_
        refine zx_aload_n (pc := 43) hF d_PS_tick_43 rfl 0 rfl ?_
        refine zg_PS_112 (pc := 44) hF 0 rfl rfl d_PS_tick_44 ?_
        refine zx_Vv (pc := 47) hF (As := [.int (tim + t)]) (rest := []) (fun sz => M_Ent_removeStale l D K (zM2 KB KS) (aB j 8) (aB j 13) (aB j 14) (aB j 15) (aB j 9) (aB j 10) (aB j 11) (aB j 12) (bf j 5) (bf j 6) (bf j 7) (bs j 2) (bf j 8) (bf j 9) (bf j 10) (tim + t)  sz) [10, 11, 12, 13, 14, 15, 16, 17] rfl (by decide) (as := [(aB j 8), (aB j 9), (aB j 10), (aB j 11), (aB j 12), (aB j 13), (aB j 14), (aB j 15)]) rfl rfl (ws' := (cO ps0 0 [.ref dg0, .ref ba0, .ref sa0, .int (nI m), .ref kp0, .ref wi0, .int hkp, .int lca, .int lre, .int lta, .int (tim + t)] :: cR KB ba0 B rb :: cO (aB j 0) 1 [.ref (aB j 1), .ref (aB j 4), .ref (aB j 8), .ref (aB j 16), .int (bs j 0), .ref (aB j 17)] :: cO (aB j 1) 9 [.ref (aB j 2), .ref (aB j 3)] :: cZ K (aB j 2) n (bf j 0) :: cI K (aB j 3) n (bf j 1) :: cO (aB j 4) 8 [.int (bs j 1), .ref l0, .ref (aB j 5), .ref (aB j 6), .ref (aB j 7)] :: cI K (aB j 5) m (bf j 2) :: cI K (aB j 6) m (bf j 3) :: cI K (aB j 7) n (bf j 4) :: cO (aB j 8) 3 [.ref (aB j 9), .ref (aB j 13), .ref (aB j 14), .ref (aB j 15)] :: cO (aB j 9) 6 [.ref (aB j 10), .ref (aB j 11), .ref (aB j 12), .int (f_relP (f_old (bf j 10) (bf j 9) (tim + t)) 8 0 (bf j 7) (bs j 2)).2] :: cI K (aB j 10) 8 (bf j 5) :: cI K (aB j 11) 8 (bf j 6) :: cZ K (aB j 12) 8 (f_relP (f_old (bf j 10) (bf j 9) (tim + t)) 8 0 (bf j 7) (bs j 2)).1 :: cI K (aB j 13) 8 (bf j 8) :: cI K (aB j 14) 8 (bf j 9) :: cI K (aB j 15) 8 (bf j 10) :: cO (aB j 16) 7 [.int (bs j 3)] :: cZ K (aB j 17) n (bf j 11) :: (bLs K l0 m n aB (tkB (tim + t) bs bf j) (tkF (tim + t) bs bf j) ((List.range B).erase j) ++ T))) rfl 0 3 rfl rfl rfl (cw_PS_175 hF.2.2.2.2.1 rfl rfl ⟨by decide, by decide⟩) rfl rfl (Nat.le_of_ble_eq_true rfl) d_PS_tick_47 ⟨Nat.zero_le _, Nat.zero_le _⟩ ?_
        refine zx_perm (ws' := (cO ps0 0 [.ref dg0, .ref ba0, .ref sa0, .int (nI m), .ref kp0, .ref wi0, .int hkp, .int lca, .int lre, .int lta, .int (tim + t)] :: cR KB ba0 B rb :: (bLs K l0 m n aB (tkB (tim + t) bs bf (j + 1)) (tkF (tim + t) bs bf (j + 1)) (List.range B) ++ T))) (tk_back (by omega)) ?_
        refine zx_iinc (pc := 50) hF (v := nI (j + 1)) (lv' := [(2, .int (nI (j + 1))), (0, .ref ps0), (1, .int t)]) d_PS_tick_50 2 rfl (zinc j) (by decide) rfl ?_
        refine zx_goto (pc := 53) hF d_PS_tick_53 (tgt := 25) rfl ?_
        refine zx_lv [1, 2, 0] (lv' := [(0, .ref ps0), (1, .int t), (2, .int (nI (j + 1)))]) rfl ?_
        exact ih (k - 1) (j + 1) (by omega) (by first | omega | (dsimp only; omega) | dsimp only)
    · exact absurd ht (fun z => by first | exact z.1 h1 | exact h8 z.2)
