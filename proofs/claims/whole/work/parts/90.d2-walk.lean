set_option maxRecDepth 20000 in
theorem M_PS_digest (l : Launch) (D : va_G) (K : Nat → ClassId) (M : List (ClassId × FieldType)) (ps0 : Nat) (dg0 : Nat) (ba0 : Nat) (sa0 : Nat) (m : Nat) (kp0 : Nat) (wi0 : Nat) (hkp : Int32) (lca : Int32) (lre : Int32) (lta : Int32) (tim : Int32) (k0 : Int64) (k1 : Int64) (dv : f_4) (s0 : Int32) (p0 : Int32) (sz : Nat) : zM l y_PS_digest (zT y_PS_digest b_PS_digest 3 (some .long)) (zR 4 87) 0 0 D K M [.ref ps0, .int s0, .int p0] [cO ps0 0 [.ref dg0, .ref ba0, .ref sa0, .int (nI m), .ref kp0, .ref wi0, .int hkp, .int lca, .int lre, .int lta, .int tim], cO dg0 2 [.long k0, .long k1, .long dv.1, .long dv.2.1, .long dv.2.2.1, .long dv.2.2.2]] sz (zQl D K M (f_dig k0 k1 (f_join s0 p0)) [cO ps0 0 [.ref dg0, .ref ba0, .ref sa0, .int (nI m), .ref kp0, .ref wi0, .int hkp, .int lca, .int lre, .int lta, .int tim], cO dg0 2 [.long k0, .long k1, .long (f_end k0 k1 (f_join s0 p0)).1, .long (f_end k0 k1 (f_join s0 p0)).2.1, .long (f_end k0 k1 (f_join s0 p0)).2.2.1, .long (f_end k0 k1 (f_join s0 p0)).2.2.2]]) := by
  refine zx_head (by decide) (Nat.le_of_ble_eq_true rfl) ?_
  intro _ _ _ _ _ _ _ _ _ hF hr hlk hnm
  refine zx_aload_n (pc := 0) hF d_PS_digest_0 rfl 0 rfl ?_
  refine zg_PS_48 (pc := 1) hF 0 rfl rfl d_PS_digest_1 ?_
  refine zx_iload_n (pc := 4) hF d_PS_digest_4 rfl 1 rfl ?_
  refine zx_iload_n (pc := 5) hF d_PS_digest_5 rfl 2 rfl ?_
  refine zx_Sl (pc := 6) hF (As := [.int s0, .int p0]) (rest := [.ref dg0]) (fun sz => M_PS_joined l D K M s0 p0  sz) [] rfl List.nodup_nil (as := []) rfl rfl (ws' := [cO ps0 0 [.ref dg0, .ref ba0, .ref sa0, .int (nI m), .ref kp0, .ref wi0, .int hkp, .int lca, .int lre, .int lta, .int tim], cO dg0 2 [.long k0, .long k1, .long dv.1, .long dv.2.1, .long dv.2.2.1, .long dv.2.2.2]]) rfl (cw_PS_90 hF.2.2.2.2.1 rfl rfl ⟨by decide, by decide⟩) rfl rfl (Nat.le_of_ble_eq_true rfl) d_PS_digest_6 ⟨Nat.zero_le _, Nat.zero_le _⟩ ?_
  refine zx_Vl (pc := 9) hF (As := [.long (f_join s0 p0)]) (rest := []) (fun sz => M_Dig_digestOf l D K M dg0 k0 k1 dv.1 dv.2.1 dv.2.2.1 dv.2.2.2 (f_join s0 p0)  sz) [1] rfl (by decide) (as := [dg0]) rfl rfl (ws' := [cO ps0 0 [.ref dg0, .ref ba0, .ref sa0, .int (nI m), .ref kp0, .ref wi0, .int hkp, .int lca, .int lre, .int lta, .int tim], cO dg0 2 [.long k0, .long k1, .long (f_end k0 k1 (f_join s0 p0)).1, .long (f_end k0 k1 (f_join s0 p0)).2.1, .long (f_end k0 k1 (f_join s0 p0)).2.2.1, .long (f_end k0 k1 (f_join s0 p0)).2.2.2]]) rfl 0 2 rfl rfl rfl (cw_PS_94 hF.2.2.2.2.1 rfl rfl ⟨by decide, by decide⟩) rfl rfl (Nat.le_of_ble_eq_true rfl) d_PS_digest_9 ⟨Nat.zero_le _, Nat.zero_le _⟩ ?_
  exact zx_lret (pc := 12) hF hr hlk (by first | rfl | (simp only []; done) | (simp only [↓reduceIte]; done) | simp []) (by first | rfl | (simp only []; done) | (simp only [↓reduceIte]; done) | simp []) d_PS_digest_12
set_option maxRecDepth 20000 in
theorem M_PS_isBalancer (l : Launch) (D : va_G) (K : Nat → ClassId) (KB KS : ClassId) (ps0 : Nat) (dg0 : Nat) (ba0 : Nat) (sa0 : Nat) (m : Nat) (kp0 : Nat) (wi0 : Nat) (hkp : Int32) (lca : Int32) (lre : Int32) (lta : Int32) (tim : Int32) (B : Nat) (rb : Nat → Option Nat) (b : Int32) (hB : B ≤ 4) (sz : Nat) : zM l y_PS_isBalancer (zT y_PS_isBalancer b_PS_isBalancer 2 (some .boolean)) (zR 0 0) 0 0 D K (zM2 KB KS) [.ref ps0, .int b] [cO ps0 0 [.ref dg0, .ref ba0, .ref sa0, .int (nI m), .ref kp0, .ref wi0, .int hkp, .int lca, .int lre, .int lta, .int tim], cR KB ba0 B rb] sz (zQi D K (zM2 KB KS) (g_is b B) [cO ps0 0 [.ref dg0, .ref ba0, .ref sa0, .int (nI m), .ref kp0, .ref wi0, .int hkp, .int lca, .int lre, .int lta, .int tim], cR KB ba0 B rb]) := by
  refine zx_head (by decide) (Nat.le_of_ble_eq_true rfl) ?_
  intro _ _ _ _ _ _ _ _ _ hF hr hlk hnm
  refine zx_iload_n (pc := 0) hF d_PS_isBalancer_0 rfl 1 rfl ?_
  refine zx_if_lt (pc := 1) hF d_PS_isBalancer_1 (tgt := 17) rfl (fun h1 => ?_) (fun h1 => ?_)
  · refine zx_iconst (pc := 17) hF d_PS_isBalancer_17 k_i0 ?_
    exact zx_zret (pc := 18) hF hr hlk rfl (by first | with_reducible rfl | (simp only [g_is, if_pos h1]; done) | (simp only [g_is, h1, ↓reduceIte]; done) | simp [g_is, h1]) (by first | with_reducible rfl | (simp only [g_is, if_pos h1]; done) | (simp only [g_is, h1, ↓reduceIte]; done) | simp [g_is, h1]) d_PS_isBalancer_18
  · refine zx_iload_n (pc := 4) hF d_PS_isBalancer_4 rfl 1 rfl ?_
    refine zx_aload_n (pc := 5) hF d_PS_isBalancer_5 rfl 0 rfl ?_
    refine zg_PS_66 (pc := 6) hF 0 rfl rfl d_PS_isBalancer_6 ?_
    refine zx_alen (pc := 9) hF 1 3 rfl rfl (v := nI B) rfl d_PS_isBalancer_9 ?_
    refine zx_icmp_ge (pc := 10) hF d_PS_isBalancer_10 (tgt := 17) rfl (fun h10 => ?_) (fun h10 => ?_)
    · refine zx_iconst (pc := 17) hF d_PS_isBalancer_17 k_i0 ?_
      exact zx_zret (pc := 18) hF hr hlk rfl (by first | with_reducible rfl | (simp only [g_is, if_neg h1, if_pos h10]; done) | (simp only [g_is, h1, h10, ↓reduceIte]; done) | simp [g_is, h1, h10]) (by first | with_reducible rfl | (simp only [g_is, if_neg h1, if_pos h10]; done) | (simp only [g_is, h1, h10, ↓reduceIte]; done) | simp [g_is, h1, h10]) d_PS_isBalancer_18
    · refine zx_iconst (pc := 13) hF d_PS_isBalancer_13 k_i1 ?_
      refine zx_goto (pc := 14) hF d_PS_isBalancer_14 (tgt := 18) rfl ?_
      exact zx_zret (pc := 18) hF hr hlk rfl (by first | with_reducible rfl | (simp only [g_is, if_neg h1, if_neg h10]; done) | (simp only [g_is, h1, h10, ↓reduceIte]; done) | simp [g_is, h1, h10]) (by first | with_reducible rfl | (simp only [g_is, if_neg h1, if_neg h10]; done) | (simp only [g_is, h1, h10, ↓reduceIte]; done) | simp [g_is, h1, h10]) d_PS_isBalancer_18
set_option maxRecDepth 20000 in
theorem M_PS_isServer (l : Launch) (D : va_G) (K : Nat → ClassId) (KB KS : ClassId) (ps0 : Nat) (dg0 : Nat) (ba0 : Nat) (sa0 : Nat) (m : Nat) (kp0 : Nat) (wi0 : Nat) (hkp : Int32) (lca : Int32) (lre : Int32) (lta : Int32) (tim : Int32) (n : Nat) (rs : Nat → Option Nat) (b : Int32) (hS : n ≤ 8) (sz : Nat) : zM l y_PS_isServer (zT y_PS_isServer b_PS_isServer 2 (some .boolean)) (zR 0 0) 0 0 D K (zM2 KB KS) [.ref ps0, .int b] [cO ps0 0 [.ref dg0, .ref ba0, .ref sa0, .int (nI m), .ref kp0, .ref wi0, .int hkp, .int lca, .int lre, .int lta, .int tim], cR KS sa0 n rs] sz (zQi D K (zM2 KB KS) (g_is b n) [cO ps0 0 [.ref dg0, .ref ba0, .ref sa0, .int (nI m), .ref kp0, .ref wi0, .int hkp, .int lca, .int lre, .int lta, .int tim], cR KS sa0 n rs]) := by
  refine zx_head (by decide) (Nat.le_of_ble_eq_true rfl) ?_
  intro _ _ _ _ _ _ _ _ _ hF hr hlk hnm
  refine zx_iload_n (pc := 0) hF d_PS_isServer_0 rfl 1 rfl ?_
  refine zx_if_lt (pc := 1) hF d_PS_isServer_1 (tgt := 17) rfl (fun h1 => ?_) (fun h1 => ?_)
  · refine zx_iconst (pc := 17) hF d_PS_isServer_17 k_i0 ?_
    exact zx_zret (pc := 18) hF hr hlk rfl (by first | with_reducible rfl | (simp only [g_is, if_pos h1]; done) | (simp only [g_is, h1, ↓reduceIte]; done) | simp [g_is, h1]) (by first | with_reducible rfl | (simp only [g_is, if_pos h1]; done) | (simp only [g_is, h1, ↓reduceIte]; done) | simp [g_is, h1]) d_PS_isServer_18
  · refine zx_iload_n (pc := 4) hF d_PS_isServer_4 rfl 1 rfl ?_
    refine zx_aload_n (pc := 5) hF d_PS_isServer_5 rfl 0 rfl ?_
    refine zg_PS_54 (pc := 6) hF 0 rfl rfl d_PS_isServer_6 ?_
    refine zx_alen (pc := 9) hF 1 4 rfl rfl (v := nI n) rfl d_PS_isServer_9 ?_
    refine zx_icmp_ge (pc := 10) hF d_PS_isServer_10 (tgt := 17) rfl (fun h10 => ?_) (fun h10 => ?_)
    · refine zx_iconst (pc := 17) hF d_PS_isServer_17 k_i0 ?_
      exact zx_zret (pc := 18) hF hr hlk rfl (by first | with_reducible rfl | (simp only [g_is, if_neg h1, if_pos h10]; done) | (simp only [g_is, h1, h10, ↓reduceIte]; done) | simp [g_is, h1, h10]) (by first | with_reducible rfl | (simp only [g_is, if_neg h1, if_pos h10]; done) | (simp only [g_is, h1, h10, ↓reduceIte]; done) | simp [g_is, h1, h10]) d_PS_isServer_18
    · refine zx_iconst (pc := 13) hF d_PS_isServer_13 k_i1 ?_
      refine zx_goto (pc := 14) hF d_PS_isServer_14 (tgt := 18) rfl ?_
      exact zx_zret (pc := 18) hF hr hlk rfl (by first | with_reducible rfl | (simp only [g_is, if_neg h1, if_neg h10]; done) | (simp only [g_is, h1, h10, ↓reduceIte]; done) | simp [g_is, h1, h10]) (by first | with_reducible rfl | (simp only [g_is, if_neg h1, if_neg h10]; done) | (simp only [g_is, h1, h10, ↓reduceIte]; done) | simp [g_is, h1, h10]) d_PS_isServer_18
set_option maxRecDepth 20000 in
theorem M_PS_placeOf (l : Launch) (D : va_G) (K : Nat → ClassId) (M : List (ClassId × FieldType)) (ps0 : Nat) (dg0 : Nat) (ba0 : Nat) (sa0 : Nat) (m : Nat) (kp0 : Nat) (wi0 : Nat) (hkp : Int32) (lca : Int32) (lre : Int32) (lta : Int32) (tim : Int32) (h : Int64) (hm : 0 < m ∧ m ≤ 101) (sz : Nat) : zM l y_PS_placeOf (zT y_PS_placeOf b_PS_placeOf 3 (some .int)) (zR 0 0) 0 0 D K M [.ref ps0, .long h] [cO ps0 0 [.ref dg0, .ref ba0, .ref sa0, .int (nI m), .ref kp0, .ref wi0, .int hkp, .int lca, .int lre, .int lta, .int tim]] sz (zQi D K M (f_plc h m) [cO ps0 0 [.ref dg0, .ref ba0, .ref sa0, .int (nI m), .ref kp0, .ref wi0, .int hkp, .int lca, .int lre, .int lta, .int tim]]) := by
  refine zx_head (by decide) (Nat.le_of_ble_eq_true rfl) ?_
  intro _ _ _ _ _ _ _ _ _ hF hr hlk hnm
  refine zx_lload_n (pc := 0) hF d_PS_placeOf_0 rfl 1 rfl ?_
  refine zx_ldc2 (pc := 1) hF wk_PS_194 d_PS_placeOf_1 ?_
  refine zx_land (pc := 4) hF d_PS_placeOf_4 ?_
  refine zx_aload_n (pc := 5) hF d_PS_placeOf_5 rfl 0 rfl ?_
  refine zg_PS_38 (pc := 6) hF 0 rfl rfl d_PS_placeOf_6 ?_
  refine zx_i2l (pc := 9) hF (v := (Int32.toInt64 (nI m))) d_PS_placeOf_9 rfl ?_
  refine zx_lrem (pc := 10) hF d_PS_placeOf_10 (g_nz hm.1 (by omega)) ?_
  refine zx_l2i (pc := 11) hF (v := (Int64.toInt32 ((h &&& 4294967295) - (h &&& 4294967295) / (Int32.toInt64 (nI m)) * (Int32.toInt64 (nI m))))) d_PS_placeOf_11 rfl ?_
  exact zx_iret (pc := 12) hF hr hlk (by first | rfl | (simp only []; done) | (simp only [↓reduceIte]; done) | simp []) (by first | rfl | (simp only []; done) | (simp only [↓reduceIte]; done) | simp []) d_PS_placeOf_12
set_option maxRecDepth 20000 in
theorem M_PS_place (l : Launch) (D : va_G) (K : Nat → ClassId) (KB KS : ClassId) (ps0 : Nat) (dg0 : Nat) (ba0 : Nat) (sa0 : Nat) (m : Nat) (kp0 : Nat) (wi0 : Nat) (hkp : Int32) (lca : Int32) (lre : Int32) (lta : Int32) (tim : Int32) (B : Nat) (rb : Nat → Option Nat) (o0 : Nat) (w0 : Nat) (b0 : Nat) (e0 : Nat) (t0 : Nat) (x0 : Nat) (live : Int32) (b1 : Nat) (b2 : Nat) (b3 : Nat) (l0 : Nat) (chg : Int32) (own : Nat → Int32) (b : Nat) (t : Nat) (hB : B ≤ 4) (hm : m ≤ 101) (hb : b < B) (hrb : rb b = some o0) (ht : t < m) (sz : Nat) : zM l y_PS_place (zT y_PS_place b_PS_place 3 (some .int)) (zR 1 21) 0 0 D K (zM2 KB KS) [.ref ps0, .int (nI b), .int (nI t)] [cO ps0 0 [.ref dg0, .ref ba0, .ref sa0, .int (nI m), .ref kp0, .ref wi0, .int hkp, .int lca, .int lre, .int lta, .int tim], cR KB ba0 B rb, cO o0 1 [.ref w0, .ref b0, .ref e0, .ref t0, .int live, .ref x0], cO b0 8 [.int chg, .ref l0, .ref b1, .ref b2, .ref b3], cI K b1 m own] sz (zQi D K (zM2 KB KS) (own t) [cO ps0 0 [.ref dg0, .ref ba0, .ref sa0, .int (nI m), .ref kp0, .ref wi0, .int hkp, .int lca, .int lre, .int lta, .int tim], cR KB ba0 B rb, cO o0 1 [.ref w0, .ref b0, .ref e0, .ref t0, .int live, .ref x0], cO b0 8 [.int chg, .ref l0, .ref b1, .ref b2, .ref b3], cI K b1 m own]) := by
  refine zx_head (by decide) (Nat.le_of_ble_eq_true rfl) ?_
  intro _ _ _ _ _ _ _ _ _ hF hr hlk hnm
  refine zx_aload_n (pc := 0) hF d_PS_place_0 rfl 0 rfl ?_
  refine zx_iload_n (pc := 1) hF d_PS_place_1 rfl 1 rfl ?_
  refine zx_Vi (pc := 2) hF (As := [.int (nI b)]) (rest := []) (fun sz => M_PS_isBalancer l D K KB KS ps0 dg0 ba0 sa0 m kp0 wi0 hkp lca lre lta tim B rb (nI b) (by first | assumption | omega) sz) [0, 1] rfl (by decide) (as := [ps0, ba0]) rfl rfl (ws' := [cO ps0 0 [.ref dg0, .ref ba0, .ref sa0, .int (nI m), .ref kp0, .ref wi0, .int hkp, .int lca, .int lre, .int lta, .int tim], cR KB ba0 B rb, cO o0 1 [.ref w0, .ref b0, .ref e0, .ref t0, .int live, .ref x0], cO b0 8 [.int chg, .ref l0, .ref b1, .ref b2, .ref b3], cI K b1 m own]) rfl 0 0 rfl rfl rfl (cw_PS_127 hF.2.2.2.2.1 rfl rfl ⟨by decide, by decide⟩) rfl rfl (Nat.le_of_ble_eq_true rfl) d_PS_place_2 ⟨Nat.zero_le _, Nat.zero_le _⟩ ?_
  refine zx_topi 1 (g_is_in hb (by omega)) ?_
  refine zx_if_eq (pc := 5) hF d_PS_place_5 (tgt := 20) rfl (fun h5 => ?_) (fun h5 => ?_)
  · exact absurd h5 (by decide)
  · refine zx_iload_n (pc := 8) hF d_PS_place_8 rfl 2 rfl ?_
    refine zx_if_lt (pc := 9) hF d_PS_place_9 (tgt := 20) rfl (fun h9 => ?_) (fun h9 => ?_)
    · replace h9 : t < 0 := (nI_ltI (a := t) (b := 0) (by omega) (by omega)).mp h9
      exact absurd h9 (Nat.not_lt_zero _)
    · replace h9 : ¬ t < 0 := fun z => h9 ((nI_ltI (a := t) (b := 0) (by omega) (by omega)).mpr z)
      refine zx_iload_n (pc := 12) hF d_PS_place_12 rfl 2 rfl ?_
      refine zx_aload_n (pc := 13) hF d_PS_place_13 rfl 0 rfl ?_
      refine zg_PS_38 (pc := 14) hF 0 rfl rfl d_PS_place_14 ?_
      refine zx_icmp_lt (pc := 17) hF d_PS_place_17 (tgt := 22) rfl (fun h17 => ?_) (fun h17 => ?_)
      · replace h17 : t < m := (nI_ltI (a := t) (b := m) (by omega) (by omega)).mp h17
        refine zx_aload_n (pc := 22) hF d_PS_place_22 rfl 0 rfl ?_
        refine zg_PS_66 (pc := 23) hF 0 rfl rfl d_PS_place_23 ?_
        refine zx_iload_n (pc := 26) hF d_PS_place_26 rfl 1 rfl ?_
        refine zx_aldq (pc := 27) hF 1 3 rfl rfl (vp_in_nI hb (by omega)) (by rw [nI_clamp (by omega)]; exact hrb) d_PS_place_27 ?_
        refine zg_PS_130 (pc := 28) hF 2 rfl rfl d_PS_place_28 ?_
        refine zx_iload_n (pc := 31) hF d_PS_place_31 rfl 2 rfl ?_
        refine zx_Vi (pc := 32) hF (As := [.int (nI t)]) (rest := []) (fun sz => M_Tab_serverAt l D K (zM2 KB KS) b0 b1 b2 b3 l0 chg m own t (by first | assumption | omega) (by first | assumption | omega) sz) [3, 4] rfl (by decide) (as := [b0, b1]) rfl rfl (ws' := [cO ps0 0 [.ref dg0, .ref ba0, .ref sa0, .int (nI m), .ref kp0, .ref wi0, .int hkp, .int lca, .int lre, .int lta, .int tim], cR KB ba0 B rb, cO o0 1 [.ref w0, .ref b0, .ref e0, .ref t0, .int live, .ref x0], cO b0 8 [.int chg, .ref l0, .ref b1, .ref b2, .ref b3], cI K b1 m own]) rfl 0 8 rfl rfl rfl (cw_PS_134 hF.2.2.2.2.1 rfl rfl ⟨by decide, by decide⟩) rfl rfl (Nat.le_of_ble_eq_true rfl) d_PS_place_32 ⟨Nat.zero_le _, Nat.zero_le _⟩ ?_
        exact zx_iret (pc := 35) hF hr hlk (by first | rfl | (simp only [if_neg h9, if_pos h17]; done) | (simp only [h9, h17, ↓reduceIte]; done) | simp [h9, h17]) (by first | rfl | (simp only [if_neg h9, if_pos h17]; done) | (simp only [h9, h17, ↓reduceIte]; done) | simp [h9, h17]) d_PS_place_35
      · replace h17 : ¬ t < m := fun z => h17 ((nI_ltI (a := t) (b := m) (by omega) (by omega)).mpr z)
        exact absurd ht (by first | (have := nI_pos (n := t) (by omega); contradiction) | assumption | omega)
set_option maxRecDepth 20000 in
theorem M_PS_place_b (l : Launch) (D : va_G) (K : Nat → ClassId) (KB KS : ClassId) (ps0 : Nat) (dg0 : Nat) (ba0 : Nat) (sa0 : Nat) (m : Nat) (kp0 : Nat) (wi0 : Nat) (hkp : Int32) (lca : Int32) (lre : Int32) (lta : Int32) (tim : Int32) (B : Nat) (rb : Nat → Option Nat) (b : Int32) (t : Int32) (hB : B ≤ 4) (hb : g_is b B = 0) (sz : Nat) : zM l y_PS_place (zT y_PS_place b_PS_place 3 (some .int)) (zR 1 21) 0 0 D K (zM2 KB KS) [.ref ps0, .int b, .int t] [cO ps0 0 [.ref dg0, .ref ba0, .ref sa0, .int (nI m), .ref kp0, .ref wi0, .int hkp, .int lca, .int lre, .int lta, .int tim], cR KB ba0 B rb] sz (zQi D K (zM2 KB KS) (-1) [cO ps0 0 [.ref dg0, .ref ba0, .ref sa0, .int (nI m), .ref kp0, .ref wi0, .int hkp, .int lca, .int lre, .int lta, .int tim], cR KB ba0 B rb]) := by
  refine zx_head (by decide) (Nat.le_of_ble_eq_true rfl) ?_
  intro _ _ _ _ _ _ _ _ _ hF hr hlk hnm
  refine zx_aload_n (pc := 0) hF d_PS_place_0 rfl 0 rfl ?_
  refine zx_iload_n (pc := 1) hF d_PS_place_1 rfl 1 rfl ?_
  refine zx_Vi (pc := 2) hF (As := [.int b]) (rest := []) (fun sz => M_PS_isBalancer l D K KB KS ps0 dg0 ba0 sa0 m kp0 wi0 hkp lca lre lta tim B rb b (by first | assumption | omega) sz) [0, 1] rfl (by decide) (as := [ps0, ba0]) rfl rfl (ws' := [cO ps0 0 [.ref dg0, .ref ba0, .ref sa0, .int (nI m), .ref kp0, .ref wi0, .int hkp, .int lca, .int lre, .int lta, .int tim], cR KB ba0 B rb]) rfl 0 0 rfl rfl rfl (cw_PS_127 hF.2.2.2.2.1 rfl rfl ⟨by decide, by decide⟩) rfl rfl (Nat.le_of_ble_eq_true rfl) d_PS_place_2 ⟨Nat.zero_le _, Nat.zero_le _⟩ ?_
  refine zx_topi 0 (hb) ?_
  refine zx_if_eq (pc := 5) hF d_PS_place_5 (tgt := 20) rfl (fun h5 => ?_) (fun h5 => ?_)
  · refine zx_iconst (pc := 20) hF d_PS_place_20 k_im1 ?_
    exact zx_iret (pc := 21) hF hr hlk (by first | rfl | (simp only []; done) | (simp only [↓reduceIte]; done) | simp []) (by first | rfl | (simp only []; done) | (simp only [↓reduceIte]; done) | simp []) d_PS_place_21
  · exact absurd h5 (by decide)
set_option maxRecDepth 20000 in
theorem M_PS_place_t (l : Launch) (D : va_G) (K : Nat → ClassId) (KB KS : ClassId) (ps0 : Nat) (dg0 : Nat) (ba0 : Nat) (sa0 : Nat) (m : Nat) (kp0 : Nat) (wi0 : Nat) (hkp : Int32) (lca : Int32) (lre : Int32) (lta : Int32) (tim : Int32) (B : Nat) (rb : Nat → Option Nat) (b : Nat) (t : Int32) (hB : B ≤ 4) (hb : b < B) (ht : t < 0 ∨ nI m ≤ t) (sz : Nat) : zM l y_PS_place (zT y_PS_place b_PS_place 3 (some .int)) (zR 1 21) 0 0 D K (zM2 KB KS) [.ref ps0, .int (nI b), .int t] [cO ps0 0 [.ref dg0, .ref ba0, .ref sa0, .int (nI m), .ref kp0, .ref wi0, .int hkp, .int lca, .int lre, .int lta, .int tim], cR KB ba0 B rb] sz (zQi D K (zM2 KB KS) (-1) [cO ps0 0 [.ref dg0, .ref ba0, .ref sa0, .int (nI m), .ref kp0, .ref wi0, .int hkp, .int lca, .int lre, .int lta, .int tim], cR KB ba0 B rb]) := by
  refine zx_head (by decide) (Nat.le_of_ble_eq_true rfl) ?_
  intro _ _ _ _ _ _ _ _ _ hF hr hlk hnm
  refine zx_aload_n (pc := 0) hF d_PS_place_0 rfl 0 rfl ?_
  refine zx_iload_n (pc := 1) hF d_PS_place_1 rfl 1 rfl ?_
  refine zx_Vi (pc := 2) hF (As := [.int (nI b)]) (rest := []) (fun sz => M_PS_isBalancer l D K KB KS ps0 dg0 ba0 sa0 m kp0 wi0 hkp lca lre lta tim B rb (nI b) (by first | assumption | omega) sz) [0, 1] rfl (by decide) (as := [ps0, ba0]) rfl rfl (ws' := [cO ps0 0 [.ref dg0, .ref ba0, .ref sa0, .int (nI m), .ref kp0, .ref wi0, .int hkp, .int lca, .int lre, .int lta, .int tim], cR KB ba0 B rb]) rfl 0 0 rfl rfl rfl (cw_PS_127 hF.2.2.2.2.1 rfl rfl ⟨by decide, by decide⟩) rfl rfl (Nat.le_of_ble_eq_true rfl) d_PS_place_2 ⟨Nat.zero_le _, Nat.zero_le _⟩ ?_
  refine zx_topi 1 (g_is_in hb (by omega)) ?_
  refine zx_if_eq (pc := 5) hF d_PS_place_5 (tgt := 20) rfl (fun h5 => ?_) (fun h5 => ?_)
  · exact absurd h5 (by decide)
  · refine zx_iload_n (pc := 8) hF d_PS_place_8 rfl 2 rfl ?_
    refine zx_if_lt (pc := 9) hF d_PS_place_9 (tgt := 20) rfl (fun h9 => ?_) (fun h9 => ?_)
    · refine zx_iconst (pc := 20) hF d_PS_place_20 k_im1 ?_
      exact zx_iret (pc := 21) hF hr hlk (by first | rfl | (simp only [if_pos h9]; done) | (simp only [h9, ↓reduceIte]; done) | simp [h9]) (by first | rfl | (simp only [if_pos h9]; done) | (simp only [h9, ↓reduceIte]; done) | simp [h9]) d_PS_place_21
    · refine zx_iload_n (pc := 12) hF d_PS_place_12 rfl 2 rfl ?_
      refine zx_aload_n (pc := 13) hF d_PS_place_13 rfl 0 rfl ?_
      refine zg_PS_38 (pc := 14) hF 0 rfl rfl d_PS_place_14 ?_
      refine zx_icmp_lt (pc := 17) hF d_PS_place_17 (tgt := 22) rfl (fun h17 => ?_) (fun h17 => ?_)
      · exact absurd ht (by intro z; rcases z with z | z; exact h9 z; exact Int32.not_le.mpr h17 z)
      · refine zx_iconst (pc := 20) hF d_PS_place_20 k_im1 ?_
        exact zx_iret (pc := 21) hF hr hlk (by first | rfl | (simp only [if_neg h9, if_neg h17]; done) | (simp only [h9, h17, ↓reduceIte]; done) | simp [h9, h17]) (by first | rfl | (simp only [if_neg h9, if_neg h17]; done) | (simp only [h9, h17, ↓reduceIte]; done) | simp [h9, h17]) d_PS_place_21
set_option maxRecDepth 20000 in
theorem M_PS_share (l : Launch) (D : va_G) (K : Nat → ClassId) (KB KS : ClassId) (ps0 : Nat) (dg0 : Nat) (ba0 : Nat) (sa0 : Nat) (m : Nat) (kp0 : Nat) (wi0 : Nat) (hkp : Int32) (lca : Int32) (lre : Int32) (lta : Int32) (tim : Int32) (B : Nat) (rb : Nat → Option Nat) (n : Nat) (rs : Nat → Option Nat) (o0 : Nat) (w0 : Nat) (b0 : Nat) (e0 : Nat) (t0 : Nat) (x0 : Nat) (live : Int32) (b1 : Nat) (b2 : Nat) (b3 : Nat) (l0 : Nat) (chg : Int32) (own : Nat → Int32) (b : Nat) (q : Nat) (hB : B ≤ 4) (hS : n ≤ 8) (hm : m ≤ 101) (hb : b < B) (hrb : rb b = some o0) (hq : q < n) (sz : Nat) : zM l y_PS_share (zT y_PS_share b_PS_share 3 (some .int)) (zR 1 23) 0 0 D K (zM2 KB KS) [.ref ps0, .int (nI b), .int (nI q)] [cO ps0 0 [.ref dg0, .ref ba0, .ref sa0, .int (nI m), .ref kp0, .ref wi0, .int hkp, .int lca, .int lre, .int lta, .int tim], cR KB ba0 B rb, cR KS sa0 n rs, cO o0 1 [.ref w0, .ref b0, .ref e0, .ref t0, .int live, .ref x0], cO b0 8 [.int chg, .ref l0, .ref b1, .ref b2, .ref b3], cI K b1 m own] sz (zQi D K (zM2 KB KS) (nI (f_count (fun p => own p == nI q) m 0 0)) [cO ps0 0 [.ref dg0, .ref ba0, .ref sa0, .int (nI m), .ref kp0, .ref wi0, .int hkp, .int lca, .int lre, .int lta, .int tim], cR KB ba0 B rb, cR KS sa0 n rs, cO o0 1 [.ref w0, .ref b0, .ref e0, .ref t0, .int live, .ref x0], cO b0 8 [.int chg, .ref l0, .ref b1, .ref b2, .ref b3], cI K b1 m own]) := by
  refine zx_head (by decide) (Nat.le_of_ble_eq_true rfl) ?_
  intro _ _ _ _ _ _ _ _ _ hF hr hlk hnm
  refine zx_aload_n (pc := 0) hF d_PS_share_0 rfl 0 rfl ?_
  refine zx_iload_n (pc := 1) hF d_PS_share_1 rfl 1 rfl ?_
  refine zx_Vi (pc := 2) hF (As := [.int (nI b)]) (rest := []) (fun sz => M_PS_isBalancer l D K KB KS ps0 dg0 ba0 sa0 m kp0 wi0 hkp lca lre lta tim B rb (nI b) (by first | assumption | omega) sz) [0, 1] rfl (by decide) (as := [ps0, ba0]) rfl rfl (ws' := [cO ps0 0 [.ref dg0, .ref ba0, .ref sa0, .int (nI m), .ref kp0, .ref wi0, .int hkp, .int lca, .int lre, .int lta, .int tim], cR KB ba0 B rb, cR KS sa0 n rs, cO o0 1 [.ref w0, .ref b0, .ref e0, .ref t0, .int live, .ref x0], cO b0 8 [.int chg, .ref l0, .ref b1, .ref b2, .ref b3], cI K b1 m own]) rfl 0 0 rfl rfl rfl (cw_PS_127 hF.2.2.2.2.1 rfl rfl ⟨by decide, by decide⟩) rfl rfl (Nat.le_of_ble_eq_true rfl) d_PS_share_2 ⟨Nat.zero_le _, Nat.zero_le _⟩ ?_
  refine zx_topi 1 (g_is_in hb (by omega)) ?_
  refine zx_if_eq (pc := 5) hF d_PS_share_5 (tgt := 16) rfl (fun h5 => ?_) (fun h5 => ?_)
  · exact absurd h5 (by decide)
  · refine zx_aload_n (pc := 8) hF d_PS_share_8 rfl 0 rfl ?_
    refine zx_iload_n (pc := 9) hF d_PS_share_9 rfl 2 rfl ?_
    refine zx_Vi (pc := 10) hF (As := [.int (nI q)]) (rest := []) (fun sz => M_PS_isServer l D K KB KS ps0 dg0 ba0 sa0 m kp0 wi0 hkp lca lre lta tim n rs (nI q) (by first | assumption | omega) sz) [0, 2] rfl (by decide) (as := [ps0, sa0]) rfl rfl (ws' := [cO ps0 0 [.ref dg0, .ref ba0, .ref sa0, .int (nI m), .ref kp0, .ref wi0, .int hkp, .int lca, .int lre, .int lta, .int tim], cR KB ba0 B rb, cR KS sa0 n rs, cO o0 1 [.ref w0, .ref b0, .ref e0, .ref t0, .int live, .ref x0], cO b0 8 [.int chg, .ref l0, .ref b1, .ref b2, .ref b3], cI K b1 m own]) rfl 0 0 rfl rfl rfl (cw_PS_139 hF.2.2.2.2.1 rfl rfl ⟨by decide, by decide⟩) rfl rfl (Nat.le_of_ble_eq_true rfl) d_PS_share_10 ⟨Nat.zero_le _, Nat.zero_le _⟩ ?_
    refine zx_topi 1 (g_is_in hq (by omega)) ?_
    refine zx_if_ne (pc := 13) hF d_PS_share_13 (tgt := 18) rfl (fun h13 => ?_) (fun h13 => ?_)
    · refine zx_aload_n (pc := 18) hF d_PS_share_18 rfl 0 rfl ?_
      refine zg_PS_66 (pc := 19) hF 0 rfl rfl d_PS_share_19 ?_
      refine zx_iload_n (pc := 22) hF d_PS_share_22 rfl 1 rfl ?_
      refine zx_aldq (pc := 23) hF 1 3 rfl rfl (vp_in_nI hb (by omega)) (by rw [nI_clamp (by omega)]; exact hrb) d_PS_share_23 ?_
      refine zg_PS_130 (pc := 24) hF 3 rfl rfl d_PS_share_24 ?_
      refine zx_iload_n (pc := 27) hF d_PS_share_27 rfl 2 rfl ?_
      refine zx_Vi (pc := 28) hF (As := [.int (nI q)]) (rest := []) (fun sz => M_Tab_placesOf l D K (zM2 KB KS) b0 b1 b2 b3 l0 chg m own (nI q) (by first | assumption | omega) sz) [4, 5] rfl (by decide) (as := [b0, b1]) rfl rfl (ws' := [cO ps0 0 [.ref dg0, .ref ba0, .ref sa0, .int (nI m), .ref kp0, .ref wi0, .int hkp, .int lca, .int lre, .int lta, .int tim], cR KB ba0 B rb, cR KS sa0 n rs, cO o0 1 [.ref w0, .ref b0, .ref e0, .ref t0, .int live, .ref x0], cO b0 8 [.int chg, .ref l0, .ref b1, .ref b2, .ref b3], cI K b1 m own]) rfl 0 8 rfl rfl rfl (cw_PS_142 hF.2.2.2.2.1 rfl rfl ⟨by decide, by decide⟩) rfl rfl (Nat.le_of_ble_eq_true rfl) d_PS_share_28 ⟨Nat.zero_le _, Nat.zero_le _⟩ ?_
      exact zx_iret (pc := 31) hF hr hlk (by first | rfl | (simp only []; done) | (simp only [↓reduceIte]; done) | simp []) (by first | rfl | (simp only []; done) | (simp only [↓reduceIte]; done) | simp []) d_PS_share_31
    · exact absurd h13 (by decide)
set_option maxRecDepth 20000 in
theorem M_PS_share_b (l : Launch) (D : va_G) (K : Nat → ClassId) (KB KS : ClassId) (ps0 : Nat) (dg0 : Nat) (ba0 : Nat) (sa0 : Nat) (m : Nat) (kp0 : Nat) (wi0 : Nat) (hkp : Int32) (lca : Int32) (lre : Int32) (lta : Int32) (tim : Int32) (B : Nat) (rb : Nat → Option Nat) (b : Int32) (q : Int32) (hB : B ≤ 4) (hb : g_is b B = 0) (sz : Nat) : zM l y_PS_share (zT y_PS_share b_PS_share 3 (some .int)) (zR 1 23) 0 0 D K (zM2 KB KS) [.ref ps0, .int b, .int q] [cO ps0 0 [.ref dg0, .ref ba0, .ref sa0, .int (nI m), .ref kp0, .ref wi0, .int hkp, .int lca, .int lre, .int lta, .int tim], cR KB ba0 B rb] sz (zQi D K (zM2 KB KS) (-1) [cO ps0 0 [.ref dg0, .ref ba0, .ref sa0, .int (nI m), .ref kp0, .ref wi0, .int hkp, .int lca, .int lre, .int lta, .int tim], cR KB ba0 B rb]) := by
  refine zx_head (by decide) (Nat.le_of_ble_eq_true rfl) ?_
  intro _ _ _ _ _ _ _ _ _ hF hr hlk hnm
  refine zx_aload_n (pc := 0) hF d_PS_share_0 rfl 0 rfl ?_
  refine zx_iload_n (pc := 1) hF d_PS_share_1 rfl 1 rfl ?_
  refine zx_Vi (pc := 2) hF (As := [.int b]) (rest := []) (fun sz => M_PS_isBalancer l D K KB KS ps0 dg0 ba0 sa0 m kp0 wi0 hkp lca lre lta tim B rb b (by first | assumption | omega) sz) [0, 1] rfl (by decide) (as := [ps0, ba0]) rfl rfl (ws' := [cO ps0 0 [.ref dg0, .ref ba0, .ref sa0, .int (nI m), .ref kp0, .ref wi0, .int hkp, .int lca, .int lre, .int lta, .int tim], cR KB ba0 B rb]) rfl 0 0 rfl rfl rfl (cw_PS_127 hF.2.2.2.2.1 rfl rfl ⟨by decide, by decide⟩) rfl rfl (Nat.le_of_ble_eq_true rfl) d_PS_share_2 ⟨Nat.zero_le _, Nat.zero_le _⟩ ?_
  refine zx_topi 0 (hb) ?_
  refine zx_if_eq (pc := 5) hF d_PS_share_5 (tgt := 16) rfl (fun h5 => ?_) (fun h5 => ?_)
  · refine zx_iconst (pc := 16) hF d_PS_share_16 k_im1 ?_
    exact zx_iret (pc := 17) hF hr hlk (by first | rfl | (simp only []; done) | (simp only [↓reduceIte]; done) | simp []) (by first | rfl | (simp only []; done) | (simp only [↓reduceIte]; done) | simp []) d_PS_share_17
  · exact absurd h5 (by decide)
set_option maxRecDepth 20000 in
theorem M_PS_share_q (l : Launch) (D : va_G) (K : Nat → ClassId) (KB KS : ClassId) (ps0 : Nat) (dg0 : Nat) (ba0 : Nat) (sa0 : Nat) (m : Nat) (kp0 : Nat) (wi0 : Nat) (hkp : Int32) (lca : Int32) (lre : Int32) (lta : Int32) (tim : Int32) (B : Nat) (rb : Nat → Option Nat) (n : Nat) (rs : Nat → Option Nat) (b : Nat) (q : Int32) (hB : B ≤ 4) (hS : n ≤ 8) (hb : b < B) (hq : g_is q n = 0) (sz : Nat) : zM l y_PS_share (zT y_PS_share b_PS_share 3 (some .int)) (zR 1 23) 0 0 D K (zM2 KB KS) [.ref ps0, .int (nI b), .int q] [cO ps0 0 [.ref dg0, .ref ba0, .ref sa0, .int (nI m), .ref kp0, .ref wi0, .int hkp, .int lca, .int lre, .int lta, .int tim], cR KB ba0 B rb, cR KS sa0 n rs] sz (zQi D K (zM2 KB KS) (-1) [cO ps0 0 [.ref dg0, .ref ba0, .ref sa0, .int (nI m), .ref kp0, .ref wi0, .int hkp, .int lca, .int lre, .int lta, .int tim], cR KB ba0 B rb, cR KS sa0 n rs]) := by
  refine zx_head (by decide) (Nat.le_of_ble_eq_true rfl) ?_
  intro _ _ _ _ _ _ _ _ _ hF hr hlk hnm
  refine zx_aload_n (pc := 0) hF d_PS_share_0 rfl 0 rfl ?_
  refine zx_iload_n (pc := 1) hF d_PS_share_1 rfl 1 rfl ?_
  refine zx_Vi (pc := 2) hF (As := [.int (nI b)]) (rest := []) (fun sz => M_PS_isBalancer l D K KB KS ps0 dg0 ba0 sa0 m kp0 wi0 hkp lca lre lta tim B rb (nI b) (by first | assumption | omega) sz) [0, 1] rfl (by decide) (as := [ps0, ba0]) rfl rfl (ws' := [cO ps0 0 [.ref dg0, .ref ba0, .ref sa0, .int (nI m), .ref kp0, .ref wi0, .int hkp, .int lca, .int lre, .int lta, .int tim], cR KB ba0 B rb, cR KS sa0 n rs]) rfl 0 0 rfl rfl rfl (cw_PS_127 hF.2.2.2.2.1 rfl rfl ⟨by decide, by decide⟩) rfl rfl (Nat.le_of_ble_eq_true rfl) d_PS_share_2 ⟨Nat.zero_le _, Nat.zero_le _⟩ ?_
  refine zx_topi 1 (g_is_in hb (by omega)) ?_
  refine zx_if_eq (pc := 5) hF d_PS_share_5 (tgt := 16) rfl (fun h5 => ?_) (fun h5 => ?_)
  · exact absurd h5 (by decide)
  · refine zx_aload_n (pc := 8) hF d_PS_share_8 rfl 0 rfl ?_
    refine zx_iload_n (pc := 9) hF d_PS_share_9 rfl 2 rfl ?_
    refine zx_Vi (pc := 10) hF (As := [.int q]) (rest := []) (fun sz => M_PS_isServer l D K KB KS ps0 dg0 ba0 sa0 m kp0 wi0 hkp lca lre lta tim n rs q (by first | assumption | omega) sz) [0, 2] rfl (by decide) (as := [ps0, sa0]) rfl rfl (ws' := [cO ps0 0 [.ref dg0, .ref ba0, .ref sa0, .int (nI m), .ref kp0, .ref wi0, .int hkp, .int lca, .int lre, .int lta, .int tim], cR KB ba0 B rb, cR KS sa0 n rs]) rfl 0 0 rfl rfl rfl (cw_PS_139 hF.2.2.2.2.1 rfl rfl ⟨by decide, by decide⟩) rfl rfl (Nat.le_of_ble_eq_true rfl) d_PS_share_10 ⟨Nat.zero_le _, Nat.zero_le _⟩ ?_
    refine zx_topi 0 (hq) ?_
    refine zx_if_ne (pc := 13) hF d_PS_share_13 (tgt := 18) rfl (fun h13 => ?_) (fun h13 => ?_)
    · exact absurd h13 (by decide)
    · refine zx_iconst (pc := 16) hF d_PS_share_16 k_im1 ?_
      exact zx_iret (pc := 17) hF hr hlk (by first | rfl | (simp only []; done) | (simp only [↓reduceIte]; done) | simp []) (by first | rfl | (simp only []; done) | (simp only [↓reduceIte]; done) | simp []) d_PS_share_17
set_option maxRecDepth 20000 in
theorem M_PS_moved (l : Launch) (D : va_G) (K : Nat → ClassId) (KB KS : ClassId) (ps0 : Nat) (dg0 : Nat) (ba0 : Nat) (sa0 : Nat) (m : Nat) (kp0 : Nat) (wi0 : Nat) (hkp : Int32) (lca : Int32) (lre : Int32) (lta : Int32) (tim : Int32) (B : Nat) (rb : Nat → Option Nat) (o0 : Nat) (w0 : Nat) (b0 : Nat) (e0 : Nat) (t0 : Nat) (x0 : Nat) (live : Int32) (b1 : Nat) (b2 : Nat) (b3 : Nat) (l0 : Nat) (chg : Int32) (b : Nat) (hB : B ≤ 4) (hb : b < B) (hrb : rb b = some o0) (sz : Nat) : zM l y_PS_moved (zT y_PS_moved b_PS_moved 2 (some .int)) (zR 1 21) 0 0 D K (zM2 KB KS) [.ref ps0, .int (nI b)] [cO ps0 0 [.ref dg0, .ref ba0, .ref sa0, .int (nI m), .ref kp0, .ref wi0, .int hkp, .int lca, .int lre, .int lta, .int tim], cR KB ba0 B rb, cO o0 1 [.ref w0, .ref b0, .ref e0, .ref t0, .int live, .ref x0], cO b0 8 [.int chg, .ref l0, .ref b1, .ref b2, .ref b3]] sz (zQi D K (zM2 KB KS) chg [cO ps0 0 [.ref dg0, .ref ba0, .ref sa0, .int (nI m), .ref kp0, .ref wi0, .int hkp, .int lca, .int lre, .int lta, .int tim], cR KB ba0 B rb, cO o0 1 [.ref w0, .ref b0, .ref e0, .ref t0, .int live, .ref x0], cO b0 8 [.int chg, .ref l0, .ref b1, .ref b2, .ref b3]]) := by
  refine zx_head (by decide) (Nat.le_of_ble_eq_true rfl) ?_
  intro _ _ _ _ _ _ _ _ _ hF hr hlk hnm
  refine zx_aload_n (pc := 0) hF d_PS_moved_0 rfl 0 rfl ?_
  refine zx_iload_n (pc := 1) hF d_PS_moved_1 rfl 1 rfl ?_
  refine zx_Vi (pc := 2) hF (As := [.int (nI b)]) (rest := []) (fun sz => M_PS_isBalancer l D K KB KS ps0 dg0 ba0 sa0 m kp0 wi0 hkp lca lre lta tim B rb (nI b) (by first | assumption | omega) sz) [0, 1] rfl (by decide) (as := [ps0, ba0]) rfl rfl (ws' := [cO ps0 0 [.ref dg0, .ref ba0, .ref sa0, .int (nI m), .ref kp0, .ref wi0, .int hkp, .int lca, .int lre, .int lta, .int tim], cR KB ba0 B rb, cO o0 1 [.ref w0, .ref b0, .ref e0, .ref t0, .int live, .ref x0], cO b0 8 [.int chg, .ref l0, .ref b1, .ref b2, .ref b3]]) rfl 0 0 rfl rfl rfl (cw_PS_127 hF.2.2.2.2.1 rfl rfl ⟨by decide, by decide⟩) rfl rfl (Nat.le_of_ble_eq_true rfl) d_PS_moved_2 ⟨Nat.zero_le _, Nat.zero_le _⟩ ?_
  refine zx_topi 1 (g_is_in hb (by omega)) ?_
  refine zx_if_eq (pc := 5) hF d_PS_moved_5 (tgt := 23) rfl (fun h5 => ?_) (fun h5 => ?_)
  · exact absurd h5 (by decide)
  · refine zx_aload_n (pc := 8) hF d_PS_moved_8 rfl 0 rfl ?_
    refine zg_PS_66 (pc := 9) hF 0 rfl rfl d_PS_moved_9 ?_
    refine zx_iload_n (pc := 12) hF d_PS_moved_12 rfl 1 rfl ?_
    refine zx_aldq (pc := 13) hF 1 3 rfl rfl (vp_in_nI hb (by omega)) (by rw [nI_clamp (by omega)]; exact hrb) d_PS_moved_13 ?_
    refine zg_PS_130 (pc := 14) hF 2 rfl rfl d_PS_moved_14 ?_
    refine zg_PS_145 (pc := 17) hF 3 rfl rfl d_PS_moved_17 ?_
    refine zx_goto (pc := 20) hF d_PS_moved_20 (tgt := 24) rfl ?_
    exact zx_iret (pc := 24) hF hr hlk (by first | rfl | (simp only []; done) | (simp only [↓reduceIte]; done) | simp []) (by first | rfl | (simp only []; done) | (simp only [↓reduceIte]; done) | simp []) d_PS_moved_24
set_option maxRecDepth 20000 in
theorem M_PS_moved_b (l : Launch) (D : va_G) (K : Nat → ClassId) (KB KS : ClassId) (ps0 : Nat) (dg0 : Nat) (ba0 : Nat) (sa0 : Nat) (m : Nat) (kp0 : Nat) (wi0 : Nat) (hkp : Int32) (lca : Int32) (lre : Int32) (lta : Int32) (tim : Int32) (B : Nat) (rb : Nat → Option Nat) (b : Int32) (hB : B ≤ 4) (hb : g_is b B = 0) (sz : Nat) : zM l y_PS_moved (zT y_PS_moved b_PS_moved 2 (some .int)) (zR 1 21) 0 0 D K (zM2 KB KS) [.ref ps0, .int b] [cO ps0 0 [.ref dg0, .ref ba0, .ref sa0, .int (nI m), .ref kp0, .ref wi0, .int hkp, .int lca, .int lre, .int lta, .int tim], cR KB ba0 B rb] sz (zQi D K (zM2 KB KS) (-1) [cO ps0 0 [.ref dg0, .ref ba0, .ref sa0, .int (nI m), .ref kp0, .ref wi0, .int hkp, .int lca, .int lre, .int lta, .int tim], cR KB ba0 B rb]) := by
  refine zx_head (by decide) (Nat.le_of_ble_eq_true rfl) ?_
  intro _ _ _ _ _ _ _ _ _ hF hr hlk hnm
  refine zx_aload_n (pc := 0) hF d_PS_moved_0 rfl 0 rfl ?_
  refine zx_iload_n (pc := 1) hF d_PS_moved_1 rfl 1 rfl ?_
  refine zx_Vi (pc := 2) hF (As := [.int b]) (rest := []) (fun sz => M_PS_isBalancer l D K KB KS ps0 dg0 ba0 sa0 m kp0 wi0 hkp lca lre lta tim B rb b (by first | assumption | omega) sz) [0, 1] rfl (by decide) (as := [ps0, ba0]) rfl rfl (ws' := [cO ps0 0 [.ref dg0, .ref ba0, .ref sa0, .int (nI m), .ref kp0, .ref wi0, .int hkp, .int lca, .int lre, .int lta, .int tim], cR KB ba0 B rb]) rfl 0 0 rfl rfl rfl (cw_PS_127 hF.2.2.2.2.1 rfl rfl ⟨by decide, by decide⟩) rfl rfl (Nat.le_of_ble_eq_true rfl) d_PS_moved_2 ⟨Nat.zero_le _, Nat.zero_le _⟩ ?_
  refine zx_topi 0 (hb) ?_
  refine zx_if_eq (pc := 5) hF d_PS_moved_5 (tgt := 23) rfl (fun h5 => ?_) (fun h5 => ?_)
  · refine zx_iconst (pc := 23) hF d_PS_moved_23 k_im1 ?_
    exact zx_iret (pc := 24) hF hr hlk (by first | rfl | (simp only []; done) | (simp only [↓reduceIte]; done) | simp []) (by first | rfl | (simp only []; done) | (simp only [↓reduceIte]; done) | simp []) d_PS_moved_24
  · exact absurd h5 (by decide)
set_option maxRecDepth 20000 in
theorem M_PS_live (l : Launch) (D : va_G) (K : Nat → ClassId) (KB KS : ClassId) (ps0 : Nat) (dg0 : Nat) (ba0 : Nat) (sa0 : Nat) (m : Nat) (kp0 : Nat) (wi0 : Nat) (hkp : Int32) (lca : Int32) (lre : Int32) (lta : Int32) (tim : Int32) (B : Nat) (rb : Nat → Option Nat) (o0 : Nat) (w0 : Nat) (b0 : Nat) (e0 : Nat) (t0 : Nat) (x0 : Nat) (live : Int32) (e1 : Nat) (e2 : Nat) (e3 : Nat) (a0 : Nat) (a1 : Nat) (a2 : Nat) (a3 : Nat) (src : Nat → Int32) (prt : Nat → Int32) (use : Nat → Int32) (cnt : Int32) (b : Nat) (o : Int32) (hB : B ≤ 4) (hb : b < B) (hrb : rb b = some o0) (ho : o = 0 ∨ o = 1) (sz : Nat) : zM l y_PS_live (zT y_PS_live b_PS_live 3 (some .boolean)) (zR 3 63) 0 0 D K (zM2 KB KS) [.ref ps0, .int (nI b), .int o] [cO ps0 0 [.ref dg0, .ref ba0, .ref sa0, .int (nI m), .ref kp0, .ref wi0, .int hkp, .int lca, .int lre, .int lta, .int tim], cR KB ba0 B rb, cO o0 1 [.ref w0, .ref b0, .ref e0, .ref t0, .int live, .ref x0], cO e0 3 [.ref a0, .ref e1, .ref e2, .ref e3], cO a0 6 [.ref a1, .ref a2, .ref a3, .int cnt], cI K a1 8 src, cI K a2 8 prt, cZ K a3 8 use] sz (zQi D K (zM2 KB KS) (f_seton live o) [cO ps0 0 [.ref dg0, .ref ba0, .ref sa0, .int (nI m), .ref kp0, .ref wi0, .int hkp, .int lca, .int lre, .int lta, .int tim], cR KB ba0 B rb, cO o0 1 [.ref w0, .ref b0, .ref e0, .ref t0, .int o, .ref x0], cO e0 3 [.ref a0, .ref e1, .ref e2, .ref e3], cO a0 6 [.ref a1, .ref a2, .ref a3, .int (f_liveuse live o use cnt).2], cI K a1 8 src, cI K a2 8 prt, cZ K a3 8 (f_liveuse live o use cnt).1]) := by
  refine zx_head (by decide) (Nat.le_of_ble_eq_true rfl) ?_
  intro _ _ _ _ _ _ _ _ _ hF hr hlk hnm
  refine zx_aload_n (pc := 0) hF d_PS_live_0 rfl 0 rfl ?_
  refine zx_iload_n (pc := 1) hF d_PS_live_1 rfl 1 rfl ?_
  refine zx_Vi (pc := 2) hF (As := [.int (nI b)]) (rest := []) (fun sz => M_PS_isBalancer l D K KB KS ps0 dg0 ba0 sa0 m kp0 wi0 hkp lca lre lta tim B rb (nI b) (by first | assumption | omega) sz) [0, 1] rfl (by decide) (as := [ps0, ba0]) rfl rfl (ws' := [cO ps0 0 [.ref dg0, .ref ba0, .ref sa0, .int (nI m), .ref kp0, .ref wi0, .int hkp, .int lca, .int lre, .int lta, .int tim], cR KB ba0 B rb, cO o0 1 [.ref w0, .ref b0, .ref e0, .ref t0, .int live, .ref x0], cO e0 3 [.ref a0, .ref e1, .ref e2, .ref e3], cO a0 6 [.ref a1, .ref a2, .ref a3, .int cnt], cI K a1 8 src, cI K a2 8 prt, cZ K a3 8 use]) rfl 0 0 rfl rfl rfl (cw_PS_127 hF.2.2.2.2.1 rfl rfl ⟨by decide, by decide⟩) rfl rfl (Nat.le_of_ble_eq_true rfl) d_PS_live_2 ⟨Nat.zero_le _, Nat.zero_le _⟩ ?_
  refine zx_topi 1 (g_is_in hb (by omega)) ?_
  refine zx_if_eq (pc := 5) hF d_PS_live_5 (tgt := 25) rfl (fun h5 => ?_) (fun h5 => ?_)
  · exact absurd h5 (by decide)
  · refine zx_aload_n (pc := 8) hF d_PS_live_8 rfl 0 rfl ?_
    refine zg_PS_66 (pc := 9) hF 0 rfl rfl d_PS_live_9 ?_
    refine zx_iload_n (pc := 12) hF d_PS_live_12 rfl 1 rfl ?_
    refine zx_aldq (pc := 13) hF 1 3 rfl rfl (vp_in_nI hb (by omega)) (by rw [nI_clamp (by omega)]; exact hrb) d_PS_live_13 ?_
    refine zx_iload_n (pc := 14) hF d_PS_live_14 rfl 2 rfl ?_
    refine zx_Vi (pc := 15) hF (As := [.int o]) (rest := []) (fun sz => M_Bal_setLive l D K (zM2 KB KS) o0 w0 b0 e0 t0 x0 live e1 e2 e3 a0 a1 a2 a3 src prt use cnt o (by first | assumption | omega) sz) [2, 3, 4, 5, 6, 7] rfl (by decide) (as := [o0, e0, a0, a1, a2, a3]) rfl rfl (ws' := [cO ps0 0 [.ref dg0, .ref ba0, .ref sa0, .int (nI m), .ref kp0, .ref wi0, .int hkp, .int lca, .int lre, .int lta, .int tim], cR KB ba0 B rb, cO o0 1 [.ref w0, .ref b0, .ref e0, .ref t0, .int o, .ref x0], cO e0 3 [.ref a0, .ref e1, .ref e2, .ref e3], cO a0 6 [.ref a1, .ref a2, .ref a3, .int (f_liveuse live o use cnt).2], cI K a1 8 src, cI K a2 8 prt, cZ K a3 8 (f_liveuse live o use cnt).1]) rfl 0 1 rfl rfl rfl (cw_PS_148 hF.2.2.2.2.1 rfl rfl ⟨by decide, by decide⟩) rfl rfl (Nat.le_of_ble_eq_true rfl) d_PS_live_15 ⟨Nat.zero_le _, Nat.zero_le _⟩ ?_
    refine zx_if_eq (pc := 18) hF d_PS_live_18 (tgt := 25) rfl (fun h18 => ?_) (fun h18 => ?_)
    · refine zx_iconst (pc := 25) hF d_PS_live_25 k_i0 ?_
      exact zx_zret (pc := 26) hF hr hlk rfl (by exact h18.symm) rfl d_PS_live_26
    · refine zx_iconst (pc := 21) hF d_PS_live_21 k_i1 ?_
      refine zx_goto (pc := 22) hF d_PS_live_22 (tgt := 26) rfl ?_
      exact zx_zret (pc := 26) hF hr hlk rfl (by revert h18; unfold f_seton; split <;> simp) rfl d_PS_live_26
set_option maxRecDepth 20000 in
theorem M_PS_live_b (l : Launch) (D : va_G) (K : Nat → ClassId) (KB KS : ClassId) (ps0 : Nat) (dg0 : Nat) (ba0 : Nat) (sa0 : Nat) (m : Nat) (kp0 : Nat) (wi0 : Nat) (hkp : Int32) (lca : Int32) (lre : Int32) (lta : Int32) (tim : Int32) (B : Nat) (rb : Nat → Option Nat) (b : Int32) (o : Int32) (hB : B ≤ 4) (hb : g_is b B = 0) (sz : Nat) : zM l y_PS_live (zT y_PS_live b_PS_live 3 (some .boolean)) (zR 3 63) 0 0 D K (zM2 KB KS) [.ref ps0, .int b, .int o] [cO ps0 0 [.ref dg0, .ref ba0, .ref sa0, .int (nI m), .ref kp0, .ref wi0, .int hkp, .int lca, .int lre, .int lta, .int tim], cR KB ba0 B rb] sz (zQi D K (zM2 KB KS) 0 [cO ps0 0 [.ref dg0, .ref ba0, .ref sa0, .int (nI m), .ref kp0, .ref wi0, .int hkp, .int lca, .int lre, .int lta, .int tim], cR KB ba0 B rb]) := by
  refine zx_head (by decide) (Nat.le_of_ble_eq_true rfl) ?_
  intro _ _ _ _ _ _ _ _ _ hF hr hlk hnm
  refine zx_aload_n (pc := 0) hF d_PS_live_0 rfl 0 rfl ?_
  refine zx_iload_n (pc := 1) hF d_PS_live_1 rfl 1 rfl ?_
  refine zx_Vi (pc := 2) hF (As := [.int b]) (rest := []) (fun sz => M_PS_isBalancer l D K KB KS ps0 dg0 ba0 sa0 m kp0 wi0 hkp lca lre lta tim B rb b (by first | assumption | omega) sz) [0, 1] rfl (by decide) (as := [ps0, ba0]) rfl rfl (ws' := [cO ps0 0 [.ref dg0, .ref ba0, .ref sa0, .int (nI m), .ref kp0, .ref wi0, .int hkp, .int lca, .int lre, .int lta, .int tim], cR KB ba0 B rb]) rfl 0 0 rfl rfl rfl (cw_PS_127 hF.2.2.2.2.1 rfl rfl ⟨by decide, by decide⟩) rfl rfl (Nat.le_of_ble_eq_true rfl) d_PS_live_2 ⟨Nat.zero_le _, Nat.zero_le _⟩ ?_
  refine zx_topi 0 (hb) ?_
  refine zx_if_eq (pc := 5) hF d_PS_live_5 (tgt := 25) rfl (fun h5 => ?_) (fun h5 => ?_)
  · refine zx_iconst (pc := 25) hF d_PS_live_25 k_i0 ?_
    exact zx_zret (pc := 26) hF hr hlk rfl (by first | rfl | (simp only []; done) | (simp only [↓reduceIte]; done) | simp []) (by first | rfl | (simp only []; done) | (simp only [↓reduceIte]; done) | simp []) d_PS_live_26
  · exact absurd h5 (by decide)
set_option maxRecDepth 20000 in
theorem M_PS_power (l : Launch) (D : va_G) (K : Nat → ClassId) (KB KS : ClassId) (ps0 : Nat) (dg0 : Nat) (ba0 : Nat) (sa0 : Nat) (m : Nat) (kp0 : Nat) (wi0 : Nat) (hkp : Int32) (lca : Int32) (lre : Int32) (lta : Int32) (tim : Int32) (n : Nat) (rs : Nat → Option Nat) (v0 : Nat) (v1 : Nat) (v2 : Nat) (t0 : Nat) (a0 : Nat) (a1 : Nat) (a2 : Nat) (a3 : Nat) (src : Nat → Int32) (prt : Nat → Int32) (use : Nat → Int32) (cnt : Int32) (on : Int32) (tk : Int32) (nx : Nat → Int32) (dt : Nat → Int32) (q : Nat) (o : Int32) (hS : n ≤ 8) (hq : q < n) (hrs : rs q = some v0) (ho : o = 0 ∨ o = 1) (sz : Nat) : zM l y_PS_power (zT y_PS_power b_PS_power 3 (some .boolean)) (zR 3 63) 0 0 D K (zM2 KB KS) [.ref ps0, .int (nI q), .int o] [cO ps0 0 [.ref dg0, .ref ba0, .ref sa0, .int (nI m), .ref kp0, .ref wi0, .int hkp, .int lca, .int lre, .int lta, .int tim], cR KS sa0 n rs, cO v0 5 [.ref a0, .ref t0, .int on, .int tk, .ref v1, .ref v2], cO a0 6 [.ref a1, .ref a2, .ref a3, .int cnt], cI K a1 10 src, cI K a2 10 prt, cZ K a3 10 use, cI K v1 10 nx, cI K v2 10 dt] sz (zQi D K (zM2 KB KS) (f_seton on o) [cO ps0 0 [.ref dg0, .ref ba0, .ref sa0, .int (nI m), .ref kp0, .ref wi0, .int hkp, .int lca, .int lre, .int lta, .int tim], cR KS sa0 n rs, cO v0 5 [.ref a0, .ref t0, .int o, .int tk, .ref v1, .ref v2], cO a0 6 [.ref a1, .ref a2, .ref a3, .int (f_onuse on o use cnt).2], cI K a1 10 src, cI K a2 10 prt, cZ K a3 10 (f_onuse on o use cnt).1, cI K v1 10 nx, cI K v2 10 dt]) := by
  refine zx_head (by decide) (Nat.le_of_ble_eq_true rfl) ?_
  intro _ _ _ _ _ _ _ _ _ hF hr hlk hnm
  refine zx_aload_n (pc := 0) hF d_PS_power_0 rfl 0 rfl ?_
  refine zx_iload_n (pc := 1) hF d_PS_power_1 rfl 1 rfl ?_
  refine zx_Vi (pc := 2) hF (As := [.int (nI q)]) (rest := []) (fun sz => M_PS_isServer l D K KB KS ps0 dg0 ba0 sa0 m kp0 wi0 hkp lca lre lta tim n rs (nI q) (by first | assumption | omega) sz) [0, 1] rfl (by decide) (as := [ps0, sa0]) rfl rfl (ws' := [cO ps0 0 [.ref dg0, .ref ba0, .ref sa0, .int (nI m), .ref kp0, .ref wi0, .int hkp, .int lca, .int lre, .int lta, .int tim], cR KS sa0 n rs, cO v0 5 [.ref a0, .ref t0, .int on, .int tk, .ref v1, .ref v2], cO a0 6 [.ref a1, .ref a2, .ref a3, .int cnt], cI K a1 10 src, cI K a2 10 prt, cZ K a3 10 use, cI K v1 10 nx, cI K v2 10 dt]) rfl 0 0 rfl rfl rfl (cw_PS_139 hF.2.2.2.2.1 rfl rfl ⟨by decide, by decide⟩) rfl rfl (Nat.le_of_ble_eq_true rfl) d_PS_power_2 ⟨Nat.zero_le _, Nat.zero_le _⟩ ?_
  refine zx_topi 1 (g_is_in hq (by omega)) ?_
  refine zx_if_eq (pc := 5) hF d_PS_power_5 (tgt := 25) rfl (fun h5 => ?_) (fun h5 => ?_)
  · exact absurd h5 (by decide)
  · refine zx_aload_n (pc := 8) hF d_PS_power_8 rfl 0 rfl ?_
    refine zg_PS_54 (pc := 9) hF 0 rfl rfl d_PS_power_9 ?_
    refine zx_iload_n (pc := 12) hF d_PS_power_12 rfl 1 rfl ?_
    refine zx_aldq (pc := 13) hF 1 4 rfl rfl (vp_in_nI hq (by omega)) (by rw [nI_clamp (by omega)]; exact hrs) d_PS_power_13 ?_
    refine zx_iload_n (pc := 14) hF d_PS_power_14 rfl 2 rfl ?_
    refine zx_Vi (pc := 15) hF (As := [.int o]) (rest := []) (fun sz => M_Srv_setOn l D K (zM2 KB KS) v0 v1 v2 t0 a0 a1 a2 a3 src prt use cnt on tk nx dt o (by first | assumption | omega) sz) [2, 3, 4, 5, 6, 7, 8] rfl (by decide) (as := [v0, a0, a1, a2, a3, v1, v2]) rfl rfl (ws' := [cO ps0 0 [.ref dg0, .ref ba0, .ref sa0, .int (nI m), .ref kp0, .ref wi0, .int hkp, .int lca, .int lre, .int lta, .int tim], cR KS sa0 n rs, cO v0 5 [.ref a0, .ref t0, .int o, .int tk, .ref v1, .ref v2], cO a0 6 [.ref a1, .ref a2, .ref a3, .int (f_onuse on o use cnt).2], cI K a1 10 src, cI K a2 10 prt, cZ K a3 10 (f_onuse on o use cnt).1, cI K v1 10 nx, cI K v2 10 dt]) rfl 0 5 rfl rfl rfl (cw_PS_152 hF.2.2.2.2.1 rfl rfl ⟨by decide, by decide⟩) rfl rfl (Nat.le_of_ble_eq_true rfl) d_PS_power_15 ⟨Nat.zero_le _, Nat.zero_le _⟩ ?_
    refine zx_if_eq (pc := 18) hF d_PS_power_18 (tgt := 25) rfl (fun h18 => ?_) (fun h18 => ?_)
    · refine zx_iconst (pc := 25) hF d_PS_power_25 k_i0 ?_
      exact zx_zret (pc := 26) hF hr hlk rfl (by exact h18.symm) rfl d_PS_power_26
    · refine zx_iconst (pc := 21) hF d_PS_power_21 k_i1 ?_
      refine zx_goto (pc := 22) hF d_PS_power_22 (tgt := 26) rfl ?_
      exact zx_zret (pc := 26) hF hr hlk rfl (by revert h18; unfold f_seton; split <;> simp) rfl d_PS_power_26
set_option maxRecDepth 20000 in
theorem M_PS_power_q (l : Launch) (D : va_G) (K : Nat → ClassId) (KB KS : ClassId) (ps0 : Nat) (dg0 : Nat) (ba0 : Nat) (sa0 : Nat) (m : Nat) (kp0 : Nat) (wi0 : Nat) (hkp : Int32) (lca : Int32) (lre : Int32) (lta : Int32) (tim : Int32) (n : Nat) (rs : Nat → Option Nat) (q : Int32) (o : Int32) (hS : n ≤ 8) (hq : g_is q n = 0) (sz : Nat) : zM l y_PS_power (zT y_PS_power b_PS_power 3 (some .boolean)) (zR 3 63) 0 0 D K (zM2 KB KS) [.ref ps0, .int q, .int o] [cO ps0 0 [.ref dg0, .ref ba0, .ref sa0, .int (nI m), .ref kp0, .ref wi0, .int hkp, .int lca, .int lre, .int lta, .int tim], cR KS sa0 n rs] sz (zQi D K (zM2 KB KS) 0 [cO ps0 0 [.ref dg0, .ref ba0, .ref sa0, .int (nI m), .ref kp0, .ref wi0, .int hkp, .int lca, .int lre, .int lta, .int tim], cR KS sa0 n rs]) := by
  refine zx_head (by decide) (Nat.le_of_ble_eq_true rfl) ?_
  intro _ _ _ _ _ _ _ _ _ hF hr hlk hnm
  refine zx_aload_n (pc := 0) hF d_PS_power_0 rfl 0 rfl ?_
  refine zx_iload_n (pc := 1) hF d_PS_power_1 rfl 1 rfl ?_
  refine zx_Vi (pc := 2) hF (As := [.int q]) (rest := []) (fun sz => M_PS_isServer l D K KB KS ps0 dg0 ba0 sa0 m kp0 wi0 hkp lca lre lta tim n rs q (by first | assumption | omega) sz) [0, 1] rfl (by decide) (as := [ps0, sa0]) rfl rfl (ws' := [cO ps0 0 [.ref dg0, .ref ba0, .ref sa0, .int (nI m), .ref kp0, .ref wi0, .int hkp, .int lca, .int lre, .int lta, .int tim], cR KS sa0 n rs]) rfl 0 0 rfl rfl rfl (cw_PS_139 hF.2.2.2.2.1 rfl rfl ⟨by decide, by decide⟩) rfl rfl (Nat.le_of_ble_eq_true rfl) d_PS_power_2 ⟨Nat.zero_le _, Nat.zero_le _⟩ ?_
  refine zx_topi 0 (hq) ?_
  refine zx_if_eq (pc := 5) hF d_PS_power_5 (tgt := 25) rfl (fun h5 => ?_) (fun h5 => ?_)
  · refine zx_iconst (pc := 25) hF d_PS_power_25 k_i0 ?_
    exact zx_zret (pc := 26) hF hr hlk rfl (by first | rfl | (simp only []; done) | (simp only [↓reduceIte]; done) | simp []) (by first | rfl | (simp only []; done) | (simp only [↓reduceIte]; done) | simp []) d_PS_power_26
  · exact absurd h5 (by decide)
