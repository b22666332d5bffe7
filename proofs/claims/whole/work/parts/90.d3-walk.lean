set_option maxRecDepth 20000 in
theorem M_PS_path (l : Launch) (D : va_G) (K : Nat → ClassId) (KB KS : ClassId) (ps0 : Nat) (dg0 : Nat) (ba0 : Nat) (sa0 : Nat) (m : Nat) (kp0 : Nat) (wi0 : Nat) (hkp : Int32) (lca : Int32) (lre : Int32) (lta : Int32) (tim : Int32) (B : Nat) (rb : Nat → Option Nat) (n : Nat) (rs : Nat → Option Nat) (o0 : Nat) (w0 : Nat) (b0 : Nat) (e0 : Nat) (t0 : Nat) (x0 : Nat) (live : Int32) (cut : Nat → Int32) (b : Nat) (q : Nat) (o : Int32) (hB : B ≤ 4) (hS : n ≤ 8) (hb : b < B) (hrb : rb b = some o0) (hq : q < n) (sz : Nat) : zM l y_PS_path (zT y_PS_path b_PS_path 4 (some .boolean)) (zR 1 23) 0 0 D K (zM2 KB KS) [.ref ps0, .int (nI b), .int (nI q), .int o] [cO ps0 0 [.ref dg0, .ref ba0, .ref sa0, .int (nI m), .ref kp0, .ref wi0, .int hkp, .int lca, .int lre, .int lta, .int tim], cR KB ba0 B rb, cR KS sa0 n rs, cO o0 1 [.ref w0, .ref b0, .ref e0, .ref t0, .int live, .ref x0], cZ K x0 n cut] sz (zQi D K (zM2 KB KS) (f_sw (cut q) o) [cO ps0 0 [.ref dg0, .ref ba0, .ref sa0, .int (nI m), .ref kp0, .ref wi0, .int hkp, .int lca, .int lre, .int lta, .int tim], cR KB ba0 B rb, cR KS sa0 n rs, cO o0 1 [.ref w0, .ref b0, .ref e0, .ref t0, .int live, .ref x0], cZ K x0 n (upd cut q (f_not o))]) := by
  refine zx_head (by decide) (Nat.le_of_ble_eq_true rfl) ?_
  intro _ _ _ _ _ _ _ _ _ hF hr hlk hnm
  refine zx_aload_n (pc := 0) hF d_PS_path_0 rfl 0 rfl ?_
  refine zx_iload_n (pc := 1) hF d_PS_path_1 rfl 1 rfl ?_
  refine zx_Vi (pc := 2) hF (As := [.int (nI b)]) (rest := []) (fun sz => M_PS_isBalancer l D K KB KS ps0 dg0 ba0 sa0 m kp0 wi0 hkp lca lre lta tim B rb (nI b) (by first | assumption | omega) sz) [0, 1] rfl (by decide) (as := [ps0, ba0]) rfl rfl (ws' := [cO ps0 0 [.ref dg0, .ref ba0, .ref sa0, .int (nI m), .ref kp0, .ref wi0, .int hkp, .int lca, .int lre, .int lta, .int tim], cR KB ba0 B rb, cR KS sa0 n rs, cO o0 1 [.ref w0, .ref b0, .ref e0, .ref t0, .int live, .ref x0], cZ K x0 n cut]) rfl 0 0 rfl rfl rfl (cw_PS_127 hF.2.2.2.2.1 rfl rfl ⟨by decide, by decide⟩) rfl rfl (Nat.le_of_ble_eq_true rfl) d_PS_path_2 ⟨Nat.zero_le _, Nat.zero_le _⟩ ?_
  refine zx_topi 1 (g_is_in hb (by omega)) ?_
  refine zx_if_eq (pc := 5) hF d_PS_path_5 (tgt := 16) rfl (fun h5 => ?_) (fun h5 => ?_)
  · exact absurd h5 (by decide)
  · refine zx_aload_n (pc := 8) hF d_PS_path_8 rfl 0 rfl ?_
    refine zx_iload_n (pc := 9) hF d_PS_path_9 rfl 2 rfl ?_
    refine zx_Vi (pc := 10) hF (As := [.int (nI q)]) (rest := []) (fun sz => M_PS_isServer l D K KB KS ps0 dg0 ba0 sa0 m kp0 wi0 hkp lca lre lta tim n rs (nI q) (by first | assumption | omega) sz) [0, 2] rfl (by decide) (as := [ps0, sa0]) rfl rfl (ws' := [cO ps0 0 [.ref dg0, .ref ba0, .ref sa0, .int (nI m), .ref kp0, .ref wi0, .int hkp, .int lca, .int lre, .int lta, .int tim], cR KB ba0 B rb, cR KS sa0 n rs, cO o0 1 [.ref w0, .ref b0, .ref e0, .ref t0, .int live, .ref x0], cZ K x0 n cut]) rfl 0 0 rfl rfl rfl (cw_PS_139 hF.2.2.2.2.1 rfl rfl ⟨by decide, by decide⟩) rfl rfl (Nat.le_of_ble_eq_true rfl) d_PS_path_10 ⟨Nat.zero_le _, Nat.zero_le _⟩ ?_
    refine zx_topi 1 (g_is_in hq (by omega)) ?_
    refine zx_if_ne (pc := 13) hF d_PS_path_13 (tgt := 18) rfl (fun h13 => ?_) (fun h13 => ?_)
    · refine zx_aload_n (pc := 18) hF d_PS_path_18 rfl 0 rfl ?_
      refine zg_PS_66 (pc := 19) hF 0 rfl rfl d_PS_path_19 ?_
      refine zx_iload_n (pc := 22) hF d_PS_path_22 rfl 1 rfl ?_
      refine zx_aldq (pc := 23) hF 1 3 rfl rfl (vp_in_nI hb (by omega)) (by rw [nI_clamp (by omega)]; exact hrb) d_PS_path_23 ?_
      refine zx_iload_n (pc := 24) hF d_PS_path_24 rfl 2 rfl ?_
      refine zx_iload_n (pc := 25) hF d_PS_path_25 rfl 3 rfl ?_
      refine zx_Vi (pc := 26) hF (As := [.int (nI q), .int o]) (rest := []) (fun sz => M_Bal_setPath l D K (zM2 KB KS) o0 w0 b0 e0 t0 x0 live n cut q o (by first | assumption | omega) (by first | assumption | omega) sz) [3, 4] rfl (by decide) (as := [o0, x0]) rfl rfl (ws' := [cO ps0 0 [.ref dg0, .ref ba0, .ref sa0, .int (nI m), .ref kp0, .ref wi0, .int hkp, .int lca, .int lre, .int lta, .int tim], cR KB ba0 B rb, cR KS sa0 n rs, cO o0 1 [.ref w0, .ref b0, .ref e0, .ref t0, .int live, .ref x0], cZ K x0 n (upd cut q (f_not o))]) rfl 0 1 rfl rfl rfl (cw_PS_155 hF.2.2.2.2.1 rfl rfl ⟨by decide, by decide⟩) rfl rfl (Nat.le_of_ble_eq_true rfl) d_PS_path_26 ⟨Nat.zero_le _, Nat.zero_le _⟩ ?_
      exact zx_zret (pc := 29) hF hr hlk (zbool (f_sw01 _ _)).1 (by first | rfl | (simp only []; done) | (simp only [↓reduceIte]; done) | simp []) (by first | rfl | (simp only []; done) | (simp only [↓reduceIte]; done) | simp []) d_PS_path_29
    · exact absurd h13 (by decide)
set_option maxRecDepth 20000 in
theorem M_PS_path_b (l : Launch) (D : va_G) (K : Nat → ClassId) (KB KS : ClassId) (ps0 : Nat) (dg0 : Nat) (ba0 : Nat) (sa0 : Nat) (m : Nat) (kp0 : Nat) (wi0 : Nat) (hkp : Int32) (lca : Int32) (lre : Int32) (lta : Int32) (tim : Int32) (B : Nat) (rb : Nat → Option Nat) (b : Int32) (q : Int32) (o : Int32) (hB : B ≤ 4) (hb : g_is b B = 0) (sz : Nat) : zM l y_PS_path (zT y_PS_path b_PS_path 4 (some .boolean)) (zR 1 23) 0 0 D K (zM2 KB KS) [.ref ps0, .int b, .int q, .int o] [cO ps0 0 [.ref dg0, .ref ba0, .ref sa0, .int (nI m), .ref kp0, .ref wi0, .int hkp, .int lca, .int lre, .int lta, .int tim], cR KB ba0 B rb] sz (zQi D K (zM2 KB KS) 0 [cO ps0 0 [.ref dg0, .ref ba0, .ref sa0, .int (nI m), .ref kp0, .ref wi0, .int hkp, .int lca, .int lre, .int lta, .int tim], cR KB ba0 B rb]) := by
  refine zx_head (by decide) (Nat.le_of_ble_eq_true rfl) ?_
  intro _ _ _ _ _ _ _ _ _ hF hr hlk hnm
  refine zx_aload_n (pc := 0) hF d_PS_path_0 rfl 0 rfl ?_
  refine zx_iload_n (pc := 1) hF d_PS_path_1 rfl 1 rfl ?_
  refine zx_Vi (pc := 2) hF (As := [.int b]) (rest := []) (fun sz => M_PS_isBalancer l D K KB KS ps0 dg0 ba0 sa0 m kp0 wi0 hkp lca lre lta tim B rb b (by first | assumption | omega) sz) [0, 1] rfl (by decide) (as := [ps0, ba0]) rfl rfl (ws' := [cO ps0 0 [.ref dg0, .ref ba0, .ref sa0, .int (nI m), .ref kp0, .ref wi0, .int hkp, .int lca, .int lre, .int lta, .int tim], cR KB ba0 B rb]) rfl 0 0 rfl rfl rfl (cw_PS_127 hF.2.2.2.2.1 rfl rfl ⟨by decide, by decide⟩) rfl rfl (Nat.le_of_ble_eq_true rfl) d_PS_path_2 ⟨Nat.zero_le _, Nat.zero_le _⟩ ?_
  refine zx_topi 0 (hb) ?_
  refine zx_if_eq (pc := 5) hF d_PS_path_5 (tgt := 16) rfl (fun h5 => ?_) (fun h5 => ?_)
  · refine zx_iconst (pc := 16) hF d_PS_path_16 k_i0 ?_
    exact zx_zret (pc := 17) hF hr hlk rfl (by first | rfl | (simp only []; done) | (simp only [↓reduceIte]; done) | simp []) (by first | rfl | (simp only []; done) | (simp only [↓reduceIte]; done) | simp []) d_PS_path_17
  · exact absurd h5 (by decide)
set_option maxRecDepth 20000 in
theorem M_PS_path_q (l : Launch) (D : va_G) (K : Nat → ClassId) (KB KS : ClassId) (ps0 : Nat) (dg0 : Nat) (ba0 : Nat) (sa0 : Nat) (m : Nat) (kp0 : Nat) (wi0 : Nat) (hkp : Int32) (lca : Int32) (lre : Int32) (lta : Int32) (tim : Int32) (B : Nat) (rb : Nat → Option Nat) (n : Nat) (rs : Nat → Option Nat) (b : Nat) (q : Int32) (o : Int32) (hB : B ≤ 4) (hS : n ≤ 8) (hb : b < B) (hq : g_is q n = 0) (sz : Nat) : zM l y_PS_path (zT y_PS_path b_PS_path 4 (some .boolean)) (zR 1 23) 0 0 D K (zM2 KB KS) [.ref ps0, .int (nI b), .int q, .int o] [cO ps0 0 [.ref dg0, .ref ba0, .ref sa0, .int (nI m), .ref kp0, .ref wi0, .int hkp, .int lca, .int lre, .int lta, .int tim], cR KB ba0 B rb, cR KS sa0 n rs] sz (zQi D K (zM2 KB KS) 0 [cO ps0 0 [.ref dg0, .ref ba0, .ref sa0, .int (nI m), .ref kp0, .ref wi0, .int hkp, .int lca, .int lre, .int lta, .int tim], cR KB ba0 B rb, cR KS sa0 n rs]) := by
  refine zx_head (by decide) (Nat.le_of_ble_eq_true rfl) ?_
  intro _ _ _ _ _ _ _ _ _ hF hr hlk hnm
  refine zx_aload_n (pc := 0) hF d_PS_path_0 rfl 0 rfl ?_
  refine zx_iload_n (pc := 1) hF d_PS_path_1 rfl 1 rfl ?_
  refine zx_Vi (pc := 2) hF (As := [.int (nI b)]) (rest := []) (fun sz => M_PS_isBalancer l D K KB KS ps0 dg0 ba0 sa0 m kp0 wi0 hkp lca lre lta tim B rb (nI b) (by first | assumption | omega) sz) [0, 1] rfl (by decide) (as := [ps0, ba0]) rfl rfl (ws' := [cO ps0 0 [.ref dg0, .ref ba0, .ref sa0, .int (nI m), .ref kp0, .ref wi0, .int hkp, .int lca, .int lre, .int lta, .int tim], cR KB ba0 B rb, cR KS sa0 n rs]) rfl 0 0 rfl rfl rfl (cw_PS_127 hF.2.2.2.2.1 rfl rfl ⟨by decide, by decide⟩) rfl rfl (Nat.le_of_ble_eq_true rfl) d_PS_path_2 ⟨Nat.zero_le _, Nat.zero_le _⟩ ?_
  refine zx_topi 1 (g_is_in hb (by omega)) ?_
  refine zx_if_eq (pc := 5) hF d_PS_path_5 (tgt := 16) rfl (fun h5 => ?_) (fun h5 => ?_)
  · exact absurd h5 (by decide)
  · refine zx_aload_n (pc := 8) hF d_PS_path_8 rfl 0 rfl ?_
    refine zx_iload_n (pc := 9) hF d_PS_path_9 rfl 2 rfl ?_
    refine zx_Vi (pc := 10) hF (As := [.int q]) (rest := []) (fun sz => M_PS_isServer l D K KB KS ps0 dg0 ba0 sa0 m kp0 wi0 hkp lca lre lta tim n rs q (by first | assumption | omega) sz) [0, 2] rfl (by decide) (as := [ps0, sa0]) rfl rfl (ws' := [cO ps0 0 [.ref dg0, .ref ba0, .ref sa0, .int (nI m), .ref kp0, .ref wi0, .int hkp, .int lca, .int lre, .int lta, .int tim], cR KB ba0 B rb, cR KS sa0 n rs]) rfl 0 0 rfl rfl rfl (cw_PS_139 hF.2.2.2.2.1 rfl rfl ⟨by decide, by decide⟩) rfl rfl (Nat.le_of_ble_eq_true rfl) d_PS_path_10 ⟨Nat.zero_le _, Nat.zero_le _⟩ ?_
    refine zx_topi 0 (hq) ?_
    refine zx_if_ne (pc := 13) hF d_PS_path_13 (tgt := 18) rfl (fun h13 => ?_) (fun h13 => ?_)
    · exact absurd h13 (by decide)
    · refine zx_iconst (pc := 16) hF d_PS_path_16 k_i0 ?_
      exact zx_zret (pc := 17) hF hr hlk rfl (by first | rfl | (simp only []; done) | (simp only [↓reduceIte]; done) | simp []) (by first | rfl | (simp only []; done) | (simp only [↓reduceIte]; done) | simp []) d_PS_path_17
set_option maxRecDepth 20000 in
theorem M_PS_held (l : Launch) (D : va_G) (K : Nat → ClassId) (KB KS : ClassId) (ps0 : Nat) (dg0 : Nat) (ba0 : Nat) (sa0 : Nat) (m : Nat) (kp0 : Nat) (wi0 : Nat) (hkp : Int32) (lca : Int32) (lre : Int32) (lta : Int32) (tim : Int32) (B : Nat) (rb : Nat → Option Nat) (n : Nat) (rs : Nat → Option Nat) (o0 : Nat) (w0 : Nat) (b0 : Nat) (e0 : Nat) (t0 : Nat) (x0 : Nat) (live : Int32) (w1 : Nat) (w2 : Nat) (up : Nat → Int32) (con : Nat → Int32) (b : Nat) (q : Nat) (hB : B ≤ 4) (hS : n ≤ 8) (hb : b < B) (hrb : rb b = some o0) (hq : q < n) (sz : Nat) : zM l y_PS_held (zT y_PS_held b_PS_held 3 (some .int)) (zR 1 21) 0 0 D K (zM2 KB KS) [.ref ps0, .int (nI b), .int (nI q)] [cO ps0 0 [.ref dg0, .ref ba0, .ref sa0, .int (nI m), .ref kp0, .ref wi0, .int hkp, .int lca, .int lre, .int lta, .int tim], cR KB ba0 B rb, cR KS sa0 n rs, cO o0 1 [.ref w0, .ref b0, .ref e0, .ref t0, .int live, .ref x0], cO w0 9 [.ref w1, .ref w2], cZ K w1 n up, cI K w2 n con] sz (zQi D K (zM2 KB KS) (if up q = 0 then 10 + con q else con q) [cO ps0 0 [.ref dg0, .ref ba0, .ref sa0, .int (nI m), .ref kp0, .ref wi0, .int hkp, .int lca, .int lre, .int lta, .int tim], cR KB ba0 B rb, cR KS sa0 n rs, cO o0 1 [.ref w0, .ref b0, .ref e0, .ref t0, .int live, .ref x0], cO w0 9 [.ref w1, .ref w2], cZ K w1 n up, cI K w2 n con]) := by
  refine zx_head (by decide) (Nat.le_of_ble_eq_true rfl) ?_
  intro _ _ _ _ _ _ _ _ _ hF hr hlk hnm
  refine zx_aload_n (pc := 0) hF d_PS_held_0 rfl 0 rfl ?_
  refine zx_iload_n (pc := 1) hF d_PS_held_1 rfl 1 rfl ?_
  refine zx_Vi (pc := 2) hF (As := [.int (nI b)]) (rest := []) (fun sz => M_PS_isBalancer l D K KB KS ps0 dg0 ba0 sa0 m kp0 wi0 hkp lca lre lta tim B rb (nI b) (by first | assumption | omega) sz) [0, 1] rfl (by decide) (as := [ps0, ba0]) rfl rfl (ws' := [cO ps0 0 [.ref dg0, .ref ba0, .ref sa0, .int (nI m), .ref kp0, .ref wi0, .int hkp, .int lca, .int lre, .int lta, .int tim], cR KB ba0 B rb, cR KS sa0 n rs, cO o0 1 [.ref w0, .ref b0, .ref e0, .ref t0, .int live, .ref x0], cO w0 9 [.ref w1, .ref w2], cZ K w1 n up, cI K w2 n con]) rfl 0 0 rfl rfl rfl (cw_PS_127 hF.2.2.2.2.1 rfl rfl ⟨by decide, by decide⟩) rfl rfl (Nat.le_of_ble_eq_true rfl) d_PS_held_2 ⟨Nat.zero_le _, Nat.zero_le _⟩ ?_
  refine zx_topi 1 (g_is_in hb (by omega)) ?_
  refine zx_if_eq (pc := 5) hF d_PS_held_5 (tgt := 16) rfl (fun h5 => ?_) (fun h5 => ?_)
  · exact absurd h5 (by decide)
  · refine zx_aload_n (pc := 8) hF d_PS_held_8 rfl 0 rfl ?_
    refine zx_iload_n (pc := 9) hF d_PS_held_9 rfl 2 rfl ?_
    refine zx_Vi (pc := 10) hF (As := [.int (nI q)]) (rest := []) (fun sz => M_PS_isServer l D K KB KS ps0 dg0 ba0 sa0 m kp0 wi0 hkp lca lre lta tim n rs (nI q) (by first | assumption | omega) sz) [0, 2] rfl (by decide) (as := [ps0, sa0]) rfl rfl (ws' := [cO ps0 0 [.ref dg0, .ref ba0, .ref sa0, .int (nI m), .ref kp0, .ref wi0, .int hkp, .int lca, .int lre, .int lta, .int tim], cR KB ba0 B rb, cR KS sa0 n rs, cO o0 1 [.ref w0, .ref b0, .ref e0, .ref t0, .int live, .ref x0], cO w0 9 [.ref w1, .ref w2], cZ K w1 n up, cI K w2 n con]) rfl 0 0 rfl rfl rfl (cw_PS_139 hF.2.2.2.2.1 rfl rfl ⟨by decide, by decide⟩) rfl rfl (Nat.le_of_ble_eq_true rfl) d_PS_held_10 ⟨Nat.zero_le _, Nat.zero_le _⟩ ?_
    refine zx_topi 1 (g_is_in hq (by omega)) ?_
    refine zx_if_ne (pc := 13) hF d_PS_held_13 (tgt := 18) rfl (fun h13 => ?_) (fun h13 => ?_)
    · refine zx_aload_n (pc := 18) hF d_PS_held_18 rfl 0 rfl ?_
      refine zg_PS_66 (pc := 19) hF 0 rfl rfl d_PS_held_19 ?_
      refine zx_iload_n (pc := 22) hF d_PS_held_22 rfl 1 rfl ?_
      refine zx_aldq (pc := 23) hF 1 3 rfl rfl (vp_in_nI hb (by omega)) (by rw [nI_clamp (by omega)]; exact hrb) d_PS_held_23 ?_
      refine zg_PS_166 (pc := 24) hF 3 rfl rfl d_PS_held_24 ?_
      refine zx_iload_n (pc := 27) hF d_PS_held_27 rfl 2 rfl ?_
      refine zx_Vi (pc := 28) hF (As := [.int (nI q)]) (rest := []) (fun sz => M_Wat_stateOf l D K (zM2 KB KS) w0 w1 w2 n up con q (by first | assumption | omega) (by first | assumption | omega) sz) [4, 5, 6] rfl (by decide) (as := [w0, w1, w2]) rfl rfl (ws' := [cO ps0 0 [.ref dg0, .ref ba0, .ref sa0, .int (nI m), .ref kp0, .ref wi0, .int hkp, .int lca, .int lre, .int lta, .int tim], cR KB ba0 B rb, cR KS sa0 n rs, cO o0 1 [.ref w0, .ref b0, .ref e0, .ref t0, .int live, .ref x0], cO w0 9 [.ref w1, .ref w2], cZ K w1 n up, cI K w2 n con]) rfl 0 9 rfl rfl rfl (cw_PS_170 hF.2.2.2.2.1 rfl rfl ⟨by decide, by decide⟩) rfl rfl (Nat.le_of_ble_eq_true rfl) d_PS_held_28 ⟨Nat.zero_le _, Nat.zero_le _⟩ ?_
      exact zx_iret (pc := 31) hF hr hlk (by first | rfl | (simp only []; done) | (simp only [↓reduceIte]; done) | simp []) (by first | rfl | (simp only []; done) | (simp only [↓reduceIte]; done) | simp []) d_PS_held_31
    · exact absurd h13 (by decide)
set_option maxRecDepth 20000 in
theorem M_PS_held_b (l : Launch) (D : va_G) (K : Nat → ClassId) (KB KS : ClassId) (ps0 : Nat) (dg0 : Nat) (ba0 : Nat) (sa0 : Nat) (m : Nat) (kp0 : Nat) (wi0 : Nat) (hkp : Int32) (lca : Int32) (lre : Int32) (lta : Int32) (tim : Int32) (B : Nat) (rb : Nat → Option Nat) (b : Int32) (q : Int32) (hB : B ≤ 4) (hb : g_is b B = 0) (sz : Nat) : zM l y_PS_held (zT y_PS_held b_PS_held 3 (some .int)) (zR 1 21) 0 0 D K (zM2 KB KS) [.ref ps0, .int b, .int q] [cO ps0 0 [.ref dg0, .ref ba0, .ref sa0, .int (nI m), .ref kp0, .ref wi0, .int hkp, .int lca, .int lre, .int lta, .int tim], cR KB ba0 B rb] sz (zQi D K (zM2 KB KS) (-1) [cO ps0 0 [.ref dg0, .ref ba0, .ref sa0, .int (nI m), .ref kp0, .ref wi0, .int hkp, .int lca, .int lre, .int lta, .int tim], cR KB ba0 B rb]) := by
  refine zx_head (by decide) (Nat.le_of_ble_eq_true rfl) ?_
  intro _ _ _ _ _ _ _ _ _ hF hr hlk hnm
  refine zx_aload_n (pc := 0) hF d_PS_held_0 rfl 0 rfl ?_
  refine zx_iload_n (pc := 1) hF d_PS_held_1 rfl 1 rfl ?_
  refine zx_Vi (pc := 2) hF (As := [.int b]) (rest := []) (fun sz => M_PS_isBalancer l D K KB KS ps0 dg0 ba0 sa0 m kp0 wi0 hkp lca lre lta tim B rb b (by first | assumption | omega) sz) [0, 1] rfl (by decide) (as := [ps0, ba0]) rfl rfl (ws' := [cO ps0 0 [.ref dg0, .ref ba0, .ref sa0, .int (nI m), .ref kp0, .ref wi0, .int hkp, .int lca, .int lre, .int lta, .int tim], cR KB ba0 B rb]) rfl 0 0 rfl rfl rfl (cw_PS_127 hF.2.2.2.2.1 rfl rfl ⟨by decide, by decide⟩) rfl rfl (Nat.le_of_ble_eq_true rfl) d_PS_held_2 ⟨Nat.zero_le _, Nat.zero_le _⟩ ?_
  refine zx_topi 0 (hb) ?_
  refine zx_if_eq (pc := 5) hF d_PS_held_5 (tgt := 16) rfl (fun h5 => ?_) (fun h5 => ?_)
  · refine zx_iconst (pc := 16) hF d_PS_held_16 k_im1 ?_
    exact zx_iret (pc := 17) hF hr hlk (by first | rfl | (simp only []; done) | (simp only [↓reduceIte]; done) | simp []) (by first | rfl | (simp only []; done) | (simp only [↓reduceIte]; done) | simp []) d_PS_held_17
  · exact absurd h5 (by decide)
set_option maxRecDepth 20000 in
theorem M_PS_held_q (l : Launch) (D : va_G) (K : Nat → ClassId) (KB KS : ClassId) (ps0 : Nat) (dg0 : Nat) (ba0 : Nat) (sa0 : Nat) (m : Nat) (kp0 : Nat) (wi0 : Nat) (hkp : Int32) (lca : Int32) (lre : Int32) (lta : Int32) (tim : Int32) (B : Nat) (rb : Nat → Option Nat) (n : Nat) (rs : Nat → Option Nat) (b : Nat) (q : Int32) (hB : B ≤ 4) (hS : n ≤ 8) (hb : b < B) (hq : g_is q n = 0) (sz : Nat) : zM l y_PS_held (zT y_PS_held b_PS_held 3 (some .int)) (zR 1 21) 0 0 D K (zM2 KB KS) [.ref ps0, .int (nI b), .int q] [cO ps0 0 [.ref dg0, .ref ba0, .ref sa0, .int (nI m), .ref kp0, .ref wi0, .int hkp, .int lca, .int lre, .int lta, .int tim], cR KB ba0 B rb, cR KS sa0 n rs] sz (zQi D K (zM2 KB KS) (-1) [cO ps0 0 [.ref dg0, .ref ba0, .ref sa0, .int (nI m), .ref kp0, .ref wi0, .int hkp, .int lca, .int lre, .int lta, .int tim], cR KB ba0 B rb, cR KS sa0 n rs]) := by
  refine zx_head (by decide) (Nat.le_of_ble_eq_true rfl) ?_
  intro _ _ _ _ _ _ _ _ _ hF hr hlk hnm
  refine zx_aload_n (pc := 0) hF d_PS_held_0 rfl 0 rfl ?_
  refine zx_iload_n (pc := 1) hF d_PS_held_1 rfl 1 rfl ?_
  refine zx_Vi (pc := 2) hF (As := [.int (nI b)]) (rest := []) (fun sz => M_PS_isBalancer l D K KB KS ps0 dg0 ba0 sa0 m kp0 wi0 hkp lca lre lta tim B rb (nI b) (by first | assumption | omega) sz) [0, 1] rfl (by decide) (as := [ps0, ba0]) rfl rfl (ws' := [cO ps0 0 [.ref dg0, .ref ba0, .ref sa0, .int (nI m), .ref kp0, .ref wi0, .int hkp, .int lca, .int lre, .int lta, .int tim], cR KB ba0 B rb, cR KS sa0 n rs]) rfl 0 0 rfl rfl rfl (cw_PS_127 hF.2.2.2.2.1 rfl rfl ⟨by decide, by decide⟩) rfl rfl (Nat.le_of_ble_eq_true rfl) d_PS_held_2 ⟨Nat.zero_le _, Nat.zero_le _⟩ ?_
  refine zx_topi 1 (g_is_in hb (by omega)) ?_
  refine zx_if_eq (pc := 5) hF d_PS_held_5 (tgt := 16) rfl (fun h5 => ?_) (fun h5 => ?_)
  · exact absurd h5 (by decide)
  · refine zx_aload_n (pc := 8) hF d_PS_held_8 rfl 0 rfl ?_
    refine zx_iload_n (pc := 9) hF d_PS_held_9 rfl 2 rfl ?_
    refine zx_Vi (pc := 10) hF (As := [.int q]) (rest := []) (fun sz => M_PS_isServer l D K KB KS ps0 dg0 ba0 sa0 m kp0 wi0 hkp lca lre lta tim n rs q (by first | assumption | omega) sz) [0, 2] rfl (by decide) (as := [ps0, sa0]) rfl rfl (ws' := [cO ps0 0 [.ref dg0, .ref ba0, .ref sa0, .int (nI m), .ref kp0, .ref wi0, .int hkp, .int lca, .int lre, .int lta, .int tim], cR KB ba0 B rb, cR KS sa0 n rs]) rfl 0 0 rfl rfl rfl (cw_PS_139 hF.2.2.2.2.1 rfl rfl ⟨by decide, by decide⟩) rfl rfl (Nat.le_of_ble_eq_true rfl) d_PS_held_10 ⟨Nat.zero_le _, Nat.zero_le _⟩ ?_
    refine zx_topi 0 (hq) ?_
    refine zx_if_ne (pc := 13) hF d_PS_held_13 (tgt := 18) rfl (fun h13 => ?_) (fun h13 => ?_)
    · exact absurd h13 (by decide)
    · refine zx_iconst (pc := 16) hF d_PS_held_16 k_im1 ?_
      exact zx_iret (pc := 17) hF hr hlk (by first | rfl | (simp only []; done) | (simp only [↓reduceIte]; done) | simp []) (by first | rfl | (simp only []; done) | (simp only [↓reduceIte]; done) | simp []) d_PS_held_17
set_option maxRecDepth 20000 in
theorem M_PS_entry (l : Launch) (D : va_G) (K : Nat → ClassId) (KB KS : ClassId) (ps0 : Nat) (dg0 : Nat) (ba0 : Nat) (sa0 : Nat) (m : Nat) (kp0 : Nat) (wi0 : Nat) (hkp : Int32) (lca : Int32) (lre : Int32) (lta : Int32) (tim : Int32) (B : Nat) (rb : Nat → Option Nat) (o0 : Nat) (w0 : Nat) (b0 : Nat) (e0 : Nat) (t0 : Nat) (x0 : Nat) (live : Int32) (e1 : Nat) (e2 : Nat) (e3 : Nat) (a0 : Nat) (a1 : Nat) (a2 : Nat) (a3 : Nat) (src : Nat → Int32) (prt : Nat → Int32) (use : Nat → Int32) (cnt : Int32) (sv : Nat → Int32) (pat : Nat → Int32) (lu : Nat → Int32) (b : Nat) (s0 : Int32) (p0 : Int32) (hB : B ≤ 4) (hb : b < B) (hrb : rb b = some o0) (sz : Nat) : zM l y_PS_entry (zT y_PS_entry b_PS_entry 4 (some .int)) (zR 2 46) 0 0 D K (zM2 KB KS) [.ref ps0, .int (nI b), .int s0, .int p0] [cO ps0 0 [.ref dg0, .ref ba0, .ref sa0, .int (nI m), .ref kp0, .ref wi0, .int hkp, .int lca, .int lre, .int lta, .int tim], cR KB ba0 B rb, cO o0 1 [.ref w0, .ref b0, .ref e0, .ref t0, .int live, .ref x0], cO e0 3 [.ref a0, .ref e1, .ref e2, .ref e3], cO a0 6 [.ref a1, .ref a2, .ref a3, .int cnt], cI K a1 8 src, cI K a2 8 prt, cZ K a3 8 use, cI K e1 8 sv, cI K e2 8 pat, cI K e3 8 lu] sz (zQi D K (zM2 KB KS) (if f_find use src prt 8 s0 p0 = -1 then -1 else sv (f_find use src prt 8 s0 p0).toNatClampNeg) [cO ps0 0 [.ref dg0, .ref ba0, .ref sa0, .int (nI m), .ref kp0, .ref wi0, .int hkp, .int lca, .int lre, .int lta, .int tim], cR KB ba0 B rb, cO o0 1 [.ref w0, .ref b0, .ref e0, .ref t0, .int live, .ref x0], cO e0 3 [.ref a0, .ref e1, .ref e2, .ref e3], cO a0 6 [.ref a1, .ref a2, .ref a3, .int cnt], cI K a1 8 src, cI K a2 8 prt, cZ K a3 8 use, cI K e1 8 sv, cI K e2 8 pat, cI K e3 8 lu]) := by
  refine zx_head (by decide) (Nat.le_of_ble_eq_true rfl) ?_
  intro _ _ _ _ _ _ _ _ _ hF hr hlk hnm
  refine zx_aload_n (pc := 0) hF d_PS_entry_0 rfl 0 rfl ?_
  refine zx_iload_n (pc := 1) hF d_PS_entry_1 rfl 1 rfl ?_
  refine zx_Vi (pc := 2) hF (As := [.int (nI b)]) (rest := []) (fun sz => M_PS_isBalancer l D K KB KS ps0 dg0 ba0 sa0 m kp0 wi0 hkp lca lre lta tim B rb (nI b) (by first | assumption | omega) sz) [0, 1] rfl (by decide) (as := [ps0, ba0]) rfl rfl (ws' := [cO ps0 0 [.ref dg0, .ref ba0, .ref sa0, .int (nI m), .ref kp0, .ref wi0, .int hkp, .int lca, .int lre, .int lta, .int tim], cR KB ba0 B rb, cO o0 1 [.ref w0, .ref b0, .ref e0, .ref t0, .int live, .ref x0], cO e0 3 [.ref a0, .ref e1, .ref e2, .ref e3], cO a0 6 [.ref a1, .ref a2, .ref a3, .int cnt], cI K a1 8 src, cI K a2 8 prt, cZ K a3 8 use, cI K e1 8 sv, cI K e2 8 pat, cI K e3 8 lu]) rfl 0 0 rfl rfl rfl (cw_PS_127 hF.2.2.2.2.1 rfl rfl ⟨by decide, by decide⟩) rfl rfl (Nat.le_of_ble_eq_true rfl) d_PS_entry_2 ⟨Nat.zero_le _, Nat.zero_le _⟩ ?_
  refine zx_topi 1 (g_is_in hb (by omega)) ?_
  refine zx_if_eq (pc := 5) hF d_PS_entry_5 (tgt := 25) rfl (fun h5 => ?_) (fun h5 => ?_)
  · exact absurd h5 (by decide)
  · refine zx_aload_n (pc := 8) hF d_PS_entry_8 rfl 0 rfl ?_
    refine zg_PS_66 (pc := 9) hF 0 rfl rfl d_PS_entry_9 ?_
    refine zx_iload_n (pc := 12) hF d_PS_entry_12 rfl 1 rfl ?_
    refine zx_aldq (pc := 13) hF 1 3 rfl rfl (vp_in_nI hb (by omega)) (by rw [nI_clamp (by omega)]; exact hrb) d_PS_entry_13 ?_
    refine zg_PS_108 (pc := 14) hF 2 rfl rfl d_PS_entry_14 ?_
    refine zx_iload_n (pc := 17) hF d_PS_entry_17 rfl 2 rfl ?_
    refine zx_iload_n (pc := 18) hF d_PS_entry_18 rfl 3 rfl ?_
    refine zx_Vi (pc := 19) hF (As := [.int s0, .int p0]) (rest := []) (fun sz => M_Ent_serverOf l D K (zM2 KB KS) e0 e1 e2 e3 a0 a1 a2 a3 src prt use cnt sv pat lu s0 p0  sz) [3, 4, 5, 6, 7, 8, 9, 10] rfl (by decide) (as := [e0, a0, a1, a2, a3, e1, e2, e3]) rfl rfl (ws' := [cO ps0 0 [.ref dg0, .ref ba0, .ref sa0, .int (nI m), .ref kp0, .ref wi0, .int hkp, .int lca, .int lre, .int lta, .int tim], cR KB ba0 B rb, cO o0 1 [.ref w0, .ref b0, .ref e0, .ref t0, .int live, .ref x0], cO e0 3 [.ref a0, .ref e1, .ref e2, .ref e3], cO a0 6 [.ref a1, .ref a2, .ref a3, .int cnt], cI K a1 8 src, cI K a2 8 prt, cZ K a3 8 use, cI K e1 8 sv, cI K e2 8 pat, cI K e3 8 lu]) rfl 0 3 rfl rfl rfl (cw_PS_179 hF.2.2.2.2.1 rfl rfl ⟨by decide, by decide⟩) rfl rfl (Nat.le_of_ble_eq_true rfl) d_PS_entry_19 ⟨Nat.zero_le _, Nat.zero_le _⟩ ?_
    refine zx_goto (pc := 22) hF d_PS_entry_22 (tgt := 26) rfl ?_
    exact zx_iret (pc := 26) hF hr hlk (by first | rfl | (simp only []; done) | (simp only [↓reduceIte]; done) | simp []) (by first | rfl | (simp only []; done) | (simp only [↓reduceIte]; done) | simp []) d_PS_entry_26
set_option maxRecDepth 20000 in
theorem M_PS_entry_b (l : Launch) (D : va_G) (K : Nat → ClassId) (KB KS : ClassId) (ps0 : Nat) (dg0 : Nat) (ba0 : Nat) (sa0 : Nat) (m : Nat) (kp0 : Nat) (wi0 : Nat) (hkp : Int32) (lca : Int32) (lre : Int32) (lta : Int32) (tim : Int32) (B : Nat) (rb : Nat → Option Nat) (b : Int32) (s0 : Int32) (p0 : Int32) (hB : B ≤ 4) (hb : g_is b B = 0) (sz : Nat) : zM l y_PS_entry (zT y_PS_entry b_PS_entry 4 (some .int)) (zR 2 46) 0 0 D K (zM2 KB KS) [.ref ps0, .int b, .int s0, .int p0] [cO ps0 0 [.ref dg0, .ref ba0, .ref sa0, .int (nI m), .ref kp0, .ref wi0, .int hkp, .int lca, .int lre, .int lta, .int tim], cR KB ba0 B rb] sz (zQi D K (zM2 KB KS) (-1) [cO ps0 0 [.ref dg0, .ref ba0, .ref sa0, .int (nI m), .ref kp0, .ref wi0, .int hkp, .int lca, .int lre, .int lta, .int tim], cR KB ba0 B rb]) := by
  refine zx_head (by decide) (Nat.le_of_ble_eq_true rfl) ?_
  intro _ _ _ _ _ _ _ _ _ hF hr hlk hnm
  refine zx_aload_n (pc := 0) hF d_PS_entry_0 rfl 0 rfl ?_
  refine zx_iload_n (pc := 1) hF d_PS_entry_1 rfl 1 rfl ?_
  refine zx_Vi (pc := 2) hF (As := [.int b]) (rest := []) (fun sz => M_PS_isBalancer l D K KB KS ps0 dg0 ba0 sa0 m kp0 wi0 hkp lca lre lta tim B rb b (by first | assumption | omega) sz) [0, 1] rfl (by decide) (as := [ps0, ba0]) rfl rfl (ws' := [cO ps0 0 [.ref dg0, .ref ba0, .ref sa0, .int (nI m), .ref kp0, .ref wi0, .int hkp, .int lca, .int lre, .int lta, .int tim], cR KB ba0 B rb]) rfl 0 0 rfl rfl rfl (cw_PS_127 hF.2.2.2.2.1 rfl rfl ⟨by decide, by decide⟩) rfl rfl (Nat.le_of_ble_eq_true rfl) d_PS_entry_2 ⟨Nat.zero_le _, Nat.zero_le _⟩ ?_
  refine zx_topi 0 (hb) ?_
  refine zx_if_eq (pc := 5) hF d_PS_entry_5 (tgt := 25) rfl (fun h5 => ?_) (fun h5 => ?_)
  · refine zx_iconst (pc := 25) hF d_PS_entry_25 k_im1 ?_
    exact zx_iret (pc := 26) hF hr hlk (by first | rfl | (simp only []; done) | (simp only [↓reduceIte]; done) | simp []) (by first | rfl | (simp only []; done) | (simp only [↓reduceIte]; done) | simp []) d_PS_entry_26
  · exact absurd h5 (by decide)
set_option maxRecDepth 20000 in
theorem M_PS_load (l : Launch) (D : va_G) (K : Nat → ClassId) (KB KS : ClassId) (ps0 : Nat) (dg0 : Nat) (ba0 : Nat) (sa0 : Nat) (m : Nat) (kp0 : Nat) (wi0 : Nat) (hkp : Int32) (lca : Int32) (lre : Int32) (lta : Int32) (tim : Int32) (B : Nat) (rb : Nat → Option Nat) (n : Nat) (rs : Nat → Option Nat) (o0 : Nat) (w0 : Nat) (b0 : Nat) (e0 : Nat) (t0 : Nat) (x0 : Nat) (live : Int32) (e1 : Nat) (e2 : Nat) (e3 : Nat) (a0 : Nat) (a1 : Nat) (a2 : Nat) (a3 : Nat) (src : Nat → Int32) (prt : Nat → Int32) (use : Nat → Int32) (cnt : Int32) (b : Nat) (v0 : Nat) (c0 : Nat) (c1 : Nat) (on : Int32) (tk : Int32) (v1 : Nat) (v2 : Nat) (c2 : Nat) (c3 : Nat) (c4 : Nat) (src2 : Nat → Int32) (prt2 : Nat → Int32) (use2 : Nat → Int32) (cnt2 : Int32) (q : Nat) (hB : B ≤ 4) (hS : n ≤ 8) (hb : b < B) (hrb : rb b = some o0) (hq : q < n) (hrs : rs q = some v0) (sz : Nat) : zM l y_PS_load (zT y_PS_load b_PS_load 5 (some .int)) (zR 1 21) 0 0 D K (zM2 KB KS) [.ref ps0, .int (nI b), .int (nI q)] [cO ps0 0 [.ref dg0, .ref ba0, .ref sa0, .int (nI m), .ref kp0, .ref wi0, .int hkp, .int lca, .int lre, .int lta, .int tim], cR KB ba0 B rb, cR KS sa0 n rs, cO o0 1 [.ref w0, .ref b0, .ref e0, .ref t0, .int live, .ref x0], cO e0 3 [.ref a0, .ref e1, .ref e2, .ref e3], cO a0 6 [.ref a1, .ref a2, .ref a3, .int cnt], cI K a1 8 src, cI K a2 8 prt, cZ K a3 8 use, cO v0 5 [.ref c0, .ref c1, .int on, .int tk, .ref v1, .ref v2], cO c0 6 [.ref c2, .ref c3, .ref c4, .int cnt2], cI K c2 10 src2, cI K c3 10 prt2, cZ K c4 10 use2] sz (zQi D K (zM2 KB KS) (cnt + 100 * cnt2) [cO ps0 0 [.ref dg0, .ref ba0, .ref sa0, .int (nI m), .ref kp0, .ref wi0, .int hkp, .int lca, .int lre, .int lta, .int tim], cR KB ba0 B rb, cR KS sa0 n rs, cO o0 1 [.ref w0, .ref b0, .ref e0, .ref t0, .int live, .ref x0], cO e0 3 [.ref a0, .ref e1, .ref e2, .ref e3], cO a0 6 [.ref a1, .ref a2, .ref a3, .int cnt], cI K a1 8 src, cI K a2 8 prt, cZ K a3 8 use, cO v0 5 [.ref c0, .ref c1, .int on, .int tk, .ref v1, .ref v2], cO c0 6 [.ref c2, .ref c3, .ref c4, .int cnt2], cI K c2 10 src2, cI K c3 10 prt2, cZ K c4 10 use2]) := by
  refine zx_head (by decide) (Nat.le_of_ble_eq_true rfl) ?_
  intro _ _ _ _ _ _ _ _ _ hF hr hlk hnm
  refine zx_aload_n (pc := 0) hF d_PS_load_0 rfl 0 rfl ?_
  refine zx_iload_n (pc := 1) hF d_PS_load_1 rfl 1 rfl ?_
  refine zx_Vi (pc := 2) hF (As := [.int (nI b)]) (rest := []) (fun sz => M_PS_isBalancer l D K KB KS ps0 dg0 ba0 sa0 m kp0 wi0 hkp lca lre lta tim B rb (nI b) (by first | assumption | omega) sz) [0, 1] rfl (by decide) (as := [ps0, ba0]) rfl rfl (ws' := [cO ps0 0 [.ref dg0, .ref ba0, .ref sa0, .int (nI m), .ref kp0, .ref wi0, .int hkp, .int lca, .int lre, .int lta, .int tim], cR KB ba0 B rb, cR KS sa0 n rs, cO o0 1 [.ref w0, .ref b0, .ref e0, .ref t0, .int live, .ref x0], cO e0 3 [.ref a0, .ref e1, .ref e2, .ref e3], cO a0 6 [.ref a1, .ref a2, .ref a3, .int cnt], cI K a1 8 src, cI K a2 8 prt, cZ K a3 8 use, cO v0 5 [.ref c0, .ref c1, .int on, .int tk, .ref v1, .ref v2], cO c0 6 [.ref c2, .ref c3, .ref c4, .int cnt2], cI K c2 10 src2, cI K c3 10 prt2, cZ K c4 10 use2]) rfl 0 0 rfl rfl rfl (cw_PS_127 hF.2.2.2.2.1 rfl rfl ⟨by decide, by decide⟩) rfl rfl (Nat.le_of_ble_eq_true rfl) d_PS_load_2 ⟨Nat.zero_le _, Nat.zero_le _⟩ ?_
  refine zx_topi 1 (g_is_in hb (by omega)) ?_
  refine zx_if_eq (pc := 5) hF d_PS_load_5 (tgt := 26) rfl (fun h5 => ?_) (fun h5 => ?_)
  · exact absurd h5 (by decide)
  · refine zx_aload_n (pc := 8) hF d_PS_load_8 rfl 0 rfl ?_
    refine zg_PS_66 (pc := 9) hF 0 rfl rfl d_PS_load_9 ?_
    refine zx_iload_n (pc := 12) hF d_PS_load_12 rfl 1 rfl ?_
    refine zx_aldq (pc := 13) hF 1 3 rfl rfl (vp_in_nI hb (by omega)) (by rw [nI_clamp (by omega)]; exact hrb) d_PS_load_13 ?_
    refine zg_PS_108 (pc := 14) hF 3 rfl rfl d_PS_load_14 ?_
    refine zg_PS_183 (pc := 17) hF 4 rfl rfl d_PS_load_17 ?_
    refine zx_Vi (pc := 20) hF (As := []) (rest := []) (fun sz => M_Slo_used l D K (zM2 KB KS) a0 a1 a2 a3 8 src prt use cnt  sz) [5, 6, 7, 8] rfl (by decide) (as := [a0, a1, a2, a3]) rfl rfl (ws' := [cO ps0 0 [.ref dg0, .ref ba0, .ref sa0, .int (nI m), .ref kp0, .ref wi0, .int hkp, .int lca, .int lre, .int lta, .int tim], cR KB ba0 B rb, cR KS sa0 n rs, cO o0 1 [.ref w0, .ref b0, .ref e0, .ref t0, .int live, .ref x0], cO e0 3 [.ref a0, .ref e1, .ref e2, .ref e3], cO a0 6 [.ref a1, .ref a2, .ref a3, .int cnt], cI K a1 8 src, cI K a2 8 prt, cZ K a3 8 use, cO v0 5 [.ref c0, .ref c1, .int on, .int tk, .ref v1, .ref v2], cO c0 6 [.ref c2, .ref c3, .ref c4, .int cnt2], cI K c2 10 src2, cI K c3 10 prt2, cZ K c4 10 use2]) rfl 0 6 rfl rfl rfl (cw_PS_187 hF.2.2.2.2.1 rfl rfl ⟨by decide, by decide⟩) rfl rfl (Nat.le_of_ble_eq_true rfl) d_PS_load_20 ⟨Nat.zero_le _, Nat.zero_le _⟩ ?_
    refine zx_goto (pc := 23) hF d_PS_load_23 (tgt := 27) rfl ?_
    refine zx_istore_n (pc := 27) hF (lv' := [(3, .int cnt), (0, .ref ps0), (1, .int (nI b)), (2, .int (nI q))]) d_PS_load_27 rfl (by decide) rfl ?_
    refine zx_aload_n (pc := 28) hF d_PS_load_28 rfl 1 rfl ?_
    refine zx_iload_n (pc := 29) hF d_PS_load_29 rfl 3 rfl ?_
    refine zx_Vi (pc := 30) hF (As := [.int (nI q)]) (rest := []) (fun sz => M_PS_isServer l D K KB KS ps0 dg0 ba0 sa0 m kp0 wi0 hkp lca lre lta tim n rs (nI q) (by first | assumption | omega) sz) [0, 2] rfl (by decide) (as := [ps0, sa0]) rfl rfl (ws' := [cO ps0 0 [.ref dg0, .ref ba0, .ref sa0, .int (nI m), .ref kp0, .ref wi0, .int hkp, .int lca, .int lre, .int lta, .int tim], cR KB ba0 B rb, cR KS sa0 n rs, cO o0 1 [.ref w0, .ref b0, .ref e0, .ref t0, .int live, .ref x0], cO e0 3 [.ref a0, .ref e1, .ref e2, .ref e3], cO a0 6 [.ref a1, .ref a2, .ref a3, .int cnt], cI K a1 8 src, cI K a2 8 prt, cZ K a3 8 use, cO v0 5 [.ref c0, .ref c1, .int on, .int tk, .ref v1, .ref v2], cO c0 6 [.ref c2, .ref c3, .ref c4, .int cnt2], cI K c2 10 src2, cI K c3 10 prt2, cZ K c4 10 use2]) rfl 0 0 rfl rfl rfl (cw_PS_139 hF.2.2.2.2.1 rfl rfl ⟨by decide, by decide⟩) rfl rfl (Nat.le_of_ble_eq_true rfl) d_PS_load_30 ⟨Nat.zero_le _, Nat.zero_le _⟩ ?_
    refine zx_topi 1 (g_is_in hq (by omega)) ?_
    refine zx_if_eq (pc := 33) hF d_PS_load_33 (tgt := 51) rfl (fun h33 => ?_) (fun h33 => ?_)
    · exact absurd h33 (by decide)
    · refine zx_aload_n (pc := 36) hF d_PS_load_36 rfl 1 rfl ?_
      refine zg_PS_54 (pc := 37) hF 0 rfl rfl d_PS_load_37 ?_
      refine zx_iload_n (pc := 40) hF d_PS_load_40 rfl 3 rfl ?_
      refine zx_aldq (pc := 41) hF 2 4 rfl rfl (vp_in_nI hq (by omega)) (by rw [nI_clamp (by omega)]; exact hrs) d_PS_load_41 ?_
      refine zg_PS_193 (pc := 42) hF 9 rfl rfl d_PS_load_42 ?_
      refine zx_Vi (pc := 45) hF (As := []) (rest := []) (fun sz => M_Slo_used l D K (zM2 KB KS) c0 c2 c3 c4 10 src2 prt2 use2 cnt2  sz) [10, 11, 12, 13] rfl (by decide) (as := [c0, c2, c3, c4]) rfl rfl (ws' := [cO ps0 0 [.ref dg0, .ref ba0, .ref sa0, .int (nI m), .ref kp0, .ref wi0, .int hkp, .int lca, .int lre, .int lta, .int tim], cR KB ba0 B rb, cR KS sa0 n rs, cO o0 1 [.ref w0, .ref b0, .ref e0, .ref t0, .int live, .ref x0], cO e0 3 [.ref a0, .ref e1, .ref e2, .ref e3], cO a0 6 [.ref a1, .ref a2, .ref a3, .int cnt], cI K a1 8 src, cI K a2 8 prt, cZ K a3 8 use, cO v0 5 [.ref c0, .ref c1, .int on, .int tk, .ref v1, .ref v2], cO c0 6 [.ref c2, .ref c3, .ref c4, .int cnt2], cI K c2 10 src2, cI K c3 10 prt2, cZ K c4 10 use2]) rfl 0 6 rfl rfl rfl (cw_PS_187 hF.2.2.2.2.1 rfl rfl ⟨by decide, by decide⟩) rfl rfl (Nat.le_of_ble_eq_true rfl) d_PS_load_45 ⟨Nat.zero_le _, Nat.zero_le _⟩ ?_
      refine zx_goto (pc := 48) hF d_PS_load_48 (tgt := 52) rfl ?_
      refine zx_istore (pc := 52) hF (lv' := [(4, .int cnt2), (3, .int cnt), (0, .ref ps0), (1, .int (nI b)), (2, .int (nI q))]) d_PS_load_52 (by decide) rfl ?_
      refine zx_iload_n (pc := 54) hF d_PS_load_54 rfl 1 rfl ?_
      refine zx_bipush (pc := 55) hF d_PS_load_55 k_b100 ?_
      refine zx_iload (pc := 57) hF d_PS_load_57 0 rfl ?_
      refine zx_imul (pc := 59) hF d_PS_load_59 ?_
      refine zx_iadd (pc := 60) hF d_PS_load_60 ?_
      exact zx_iret (pc := 61) hF hr hlk (by first | rfl | (simp only []; done) | (simp only [↓reduceIte]; done) | simp []) (by first | rfl | (simp only []; done) | (simp only [↓reduceIte]; done) | simp []) d_PS_load_61
set_option maxRecDepth 20000 in
theorem M_PS_load_q (l : Launch) (D : va_G) (K : Nat → ClassId) (KB KS : ClassId) (ps0 : Nat) (dg0 : Nat) (ba0 : Nat) (sa0 : Nat) (m : Nat) (kp0 : Nat) (wi0 : Nat) (hkp : Int32) (lca : Int32) (lre : Int32) (lta : Int32) (tim : Int32) (B : Nat) (rb : Nat → Option Nat) (n : Nat) (rs : Nat → Option Nat) (o0 : Nat) (w0 : Nat) (b0 : Nat) (e0 : Nat) (t0 : Nat) (x0 : Nat) (live : Int32) (e1 : Nat) (e2 : Nat) (e3 : Nat) (a0 : Nat) (a1 : Nat) (a2 : Nat) (a3 : Nat) (src : Nat → Int32) (prt : Nat → Int32) (use : Nat → Int32) (cnt : Int32) (b : Nat) (q : Int32) (hB : B ≤ 4) (hS : n ≤ 8) (hb : b < B) (hrb : rb b = some o0) (hq : g_is q n = 0) (sz : Nat) : zM l y_PS_load (zT y_PS_load b_PS_load 5 (some .int)) (zR 1 21) 0 0 D K (zM2 KB KS) [.ref ps0, .int (nI b), .int q] [cO ps0 0 [.ref dg0, .ref ba0, .ref sa0, .int (nI m), .ref kp0, .ref wi0, .int hkp, .int lca, .int lre, .int lta, .int tim], cR KB ba0 B rb, cR KS sa0 n rs, cO o0 1 [.ref w0, .ref b0, .ref e0, .ref t0, .int live, .ref x0], cO e0 3 [.ref a0, .ref e1, .ref e2, .ref e3], cO a0 6 [.ref a1, .ref a2, .ref a3, .int cnt], cI K a1 8 src, cI K a2 8 prt, cZ K a3 8 use] sz (zQi D K (zM2 KB KS) (cnt + 100 * 0) [cO ps0 0 [.ref dg0, .ref ba0, .ref sa0, .int (nI m), .ref kp0, .ref wi0, .int hkp, .int lca, .int lre, .int lta, .int tim], cR KB ba0 B rb, cR KS sa0 n rs, cO o0 1 [.ref w0, .ref b0, .ref e0, .ref t0, .int live, .ref x0], cO e0 3 [.ref a0, .ref e1, .ref e2, .ref e3], cO a0 6 [.ref a1, .ref a2, .ref a3, .int cnt], cI K a1 8 src, cI K a2 8 prt, cZ K a3 8 use]) := by
  refine zx_head (by decide) (Nat.le_of_ble_eq_true rfl) ?_
  intro _ _ _ _ _ _ _ _ _ hF hr hlk hnm
  refine zx_aload_n (pc := 0) hF d_PS_load_0 rfl 0 rfl ?_
  refine zx_iload_n (pc := 1) hF d_PS_load_1 rfl 1 rfl ?_
  refine zx_Vi (pc := 2) hF (As := [.int (nI b)]) (rest := []) (fun sz => M_PS_isBalancer l D K KB KS ps0 dg0 ba0 sa0 m kp0 wi0 hkp lca lre lta tim B rb (nI b) (by first | assumption | omega) sz) [0, 1] rfl (by decide) (as := [ps0, ba0]) rfl rfl (ws' := [cO ps0 0 [.ref dg0, .ref ba0, .ref sa0, .int (nI m), .ref kp0, .ref wi0, .int hkp, .int lca, .int lre, .int lta, .int tim], cR KB ba0 B rb, cR KS sa0 n rs, cO o0 1 [.ref w0, .ref b0, .ref e0, .ref t0, .int live, .ref x0], cO e0 3 [.ref a0, .ref e1, .ref e2, .ref e3], cO a0 6 [.ref a1, .ref a2, .ref a3, .int cnt], cI K a1 8 src, cI K a2 8 prt, cZ K a3 8 use]) rfl 0 0 rfl rfl rfl (cw_PS_127 hF.2.2.2.2.1 rfl rfl ⟨by decide, by decide⟩) rfl rfl (Nat.le_of_ble_eq_true rfl) d_PS_load_2 ⟨Nat.zero_le _, Nat.zero_le _⟩ ?_
  refine zx_topi 1 (g_is_in hb (by omega)) ?_
  refine zx_if_eq (pc := 5) hF d_PS_load_5 (tgt := 26) rfl (fun h5 => ?_) (fun h5 => ?_)
  · exact absurd h5 (by decide)
  · refine zx_aload_n (pc := 8) hF d_PS_load_8 rfl 0 rfl ?_
    refine zg_PS_66 (pc := 9) hF 0 rfl rfl d_PS_load_9 ?_
    refine zx_iload_n (pc := 12) hF d_PS_load_12 rfl 1 rfl ?_
    refine zx_aldq (pc := 13) hF 1 3 rfl rfl (vp_in_nI hb (by omega)) (by rw [nI_clamp (by omega)]; exact hrb) d_PS_load_13 ?_
    refine zg_PS_108 (pc := 14) hF 3 rfl rfl d_PS_load_14 ?_
    refine zg_PS_183 (pc := 17) hF 4 rfl rfl d_PS_load_17 ?_
    refine zx_Vi (pc := 20) hF (As := []) (rest := []) (fun sz => M_Slo_used l D K (zM2 KB KS) a0 a1 a2 a3 8 src prt use cnt  sz) [5, 6, 7, 8] rfl (by decide) (as := [a0, a1, a2, a3]) rfl rfl (ws' := [cO ps0 0 [.ref dg0, .ref ba0, .ref sa0, .int (nI m), .ref kp0, .ref wi0, .int hkp, .int lca, .int lre, .int lta, .int tim], cR KB ba0 B rb, cR KS sa0 n rs, cO o0 1 [.ref w0, .ref b0, .ref e0, .ref t0, .int live, .ref x0], cO e0 3 [.ref a0, .ref e1, .ref e2, .ref e3], cO a0 6 [.ref a1, .ref a2, .ref a3, .int cnt], cI K a1 8 src, cI K a2 8 prt, cZ K a3 8 use]) rfl 0 6 rfl rfl rfl (cw_PS_187 hF.2.2.2.2.1 rfl rfl ⟨by decide, by decide⟩) rfl rfl (Nat.le_of_ble_eq_true rfl) d_PS_load_20 ⟨Nat.zero_le _, Nat.zero_le _⟩ ?_
    refine zx_goto (pc := 23) hF d_PS_load_23 (tgt := 27) rfl ?_
    refine zx_istore_n (pc := 27) hF (lv' := [(3, .int cnt), (0, .ref ps0), (1, .int (nI b)), (2, .int q)]) d_PS_load_27 rfl (by decide) rfl ?_
    refine zx_aload_n (pc := 28) hF d_PS_load_28 rfl 1 rfl ?_
    refine zx_iload_n (pc := 29) hF d_PS_load_29 rfl 3 rfl ?_
    refine zx_Vi (pc := 30) hF (As := [.int q]) (rest := []) (fun sz => M_PS_isServer l D K KB KS ps0 dg0 ba0 sa0 m kp0 wi0 hkp lca lre lta tim n rs q (by first | assumption | omega) sz) [0, 2] rfl (by decide) (as := [ps0, sa0]) rfl rfl (ws' := [cO ps0 0 [.ref dg0, .ref ba0, .ref sa0, .int (nI m), .ref kp0, .ref wi0, .int hkp, .int lca, .int lre, .int lta, .int tim], cR KB ba0 B rb, cR KS sa0 n rs, cO o0 1 [.ref w0, .ref b0, .ref e0, .ref t0, .int live, .ref x0], cO e0 3 [.ref a0, .ref e1, .ref e2, .ref e3], cO a0 6 [.ref a1, .ref a2, .ref a3, .int cnt], cI K a1 8 src, cI K a2 8 prt, cZ K a3 8 use]) rfl 0 0 rfl rfl rfl (cw_PS_139 hF.2.2.2.2.1 rfl rfl ⟨by decide, by decide⟩) rfl rfl (Nat.le_of_ble_eq_true rfl) d_PS_load_30 ⟨Nat.zero_le _, Nat.zero_le _⟩ ?_
    refine zx_topi 0 (hq) ?_
    refine zx_if_eq (pc := 33) hF d_PS_load_33 (tgt := 51) rfl (fun h33 => ?_) (fun h33 => ?_)
    · refine zx_iconst (pc := 51) hF d_PS_load_51 k_i0 ?_
      refine zx_istore (pc := 52) hF (lv' := [(4, .int 0), (3, .int cnt), (0, .ref ps0), (1, .int (nI b)), (2, .int q)]) d_PS_load_52 (by decide) rfl ?_
      refine zx_iload_n (pc := 54) hF d_PS_load_54 rfl 1 rfl ?_
      refine zx_bipush (pc := 55) hF d_PS_load_55 k_b100 ?_
      refine zx_iload (pc := 57) hF d_PS_load_57 0 rfl ?_
      refine zx_imul (pc := 59) hF d_PS_load_59 ?_
      refine zx_iadd (pc := 60) hF d_PS_load_60 ?_
      exact zx_iret (pc := 61) hF hr hlk (by first | rfl | (simp only []; done) | (simp only [↓reduceIte]; done) | simp []) (by first | rfl | (simp only []; done) | (simp only [↓reduceIte]; done) | simp []) d_PS_load_61
    · exact absurd h33 (by decide)
set_option maxRecDepth 20000 in
theorem M_PS_load_b (l : Launch) (D : va_G) (K : Nat → ClassId) (KB KS : ClassId) (ps0 : Nat) (dg0 : Nat) (ba0 : Nat) (sa0 : Nat) (m : Nat) (kp0 : Nat) (wi0 : Nat) (hkp : Int32) (lca : Int32) (lre : Int32) (lta : Int32) (tim : Int32) (B : Nat) (rb : Nat → Option Nat) (n : Nat) (rs : Nat → Option Nat) (b : Int32) (v0 : Nat) (c0 : Nat) (c1 : Nat) (on : Int32) (tk : Int32) (v1 : Nat) (v2 : Nat) (c2 : Nat) (c3 : Nat) (c4 : Nat) (src2 : Nat → Int32) (prt2 : Nat → Int32) (use2 : Nat → Int32) (cnt2 : Int32) (q : Nat) (hB : B ≤ 4) (hS : n ≤ 8) (hb : g_is b B = 0) (hq : q < n) (hrs : rs q = some v0) (sz : Nat) : zM l y_PS_load (zT y_PS_load b_PS_load 5 (some .int)) (zR 1 21) 0 0 D K (zM2 KB KS) [.ref ps0, .int b, .int (nI q)] [cO ps0 0 [.ref dg0, .ref ba0, .ref sa0, .int (nI m), .ref kp0, .ref wi0, .int hkp, .int lca, .int lre, .int lta, .int tim], cR KB ba0 B rb, cR KS sa0 n rs, cO v0 5 [.ref c0, .ref c1, .int on, .int tk, .ref v1, .ref v2], cO c0 6 [.ref c2, .ref c3, .ref c4, .int cnt2], cI K c2 10 src2, cI K c3 10 prt2, cZ K c4 10 use2] sz (zQi D K (zM2 KB KS) (0 + 100 * cnt2) [cO ps0 0 [.ref dg0, .ref ba0, .ref sa0, .int (nI m), .ref kp0, .ref wi0, .int hkp, .int lca, .int lre, .int lta, .int tim], cR KB ba0 B rb, cR KS sa0 n rs, cO v0 5 [.ref c0, .ref c1, .int on, .int tk, .ref v1, .ref v2], cO c0 6 [.ref c2, .ref c3, .ref c4, .int cnt2], cI K c2 10 src2, cI K c3 10 prt2, cZ K c4 10 use2]) := by
  refine zx_head (by decide) (Nat.le_of_ble_eq_true rfl) ?_
  intro _ _ _ _ _ _ _ _ _ hF hr hlk hnm
  refine zx_aload_n (pc := 0) hF d_PS_load_0 rfl 0 rfl ?_
  refine zx_iload_n (pc := 1) hF d_PS_load_1 rfl 1 rfl ?_
  refine zx_Vi (pc := 2) hF (As := [.int b]) (rest := []) (fun sz => M_PS_isBalancer l D K KB KS ps0 dg0 ba0 sa0 m kp0 wi0 hkp lca lre lta tim B rb b (by first | assumption | omega) sz) [0, 1] rfl (by decide) (as := [ps0, ba0]) rfl rfl (ws' := [cO ps0 0 [.ref dg0, .ref ba0, .ref sa0, .int (nI m), .ref kp0, .ref wi0, .int hkp, .int lca, .int lre, .int lta, .int tim], cR KB ba0 B rb, cR KS sa0 n rs, cO v0 5 [.ref c0, .ref c1, .int on, .int tk, .ref v1, .ref v2], cO c0 6 [.ref c2, .ref c3, .ref c4, .int cnt2], cI K c2 10 src2, cI K c3 10 prt2, cZ K c4 10 use2]) rfl 0 0 rfl rfl rfl (cw_PS_127 hF.2.2.2.2.1 rfl rfl ⟨by decide, by decide⟩) rfl rfl (Nat.le_of_ble_eq_true rfl) d_PS_load_2 ⟨Nat.zero_le _, Nat.zero_le _⟩ ?_
  refine zx_topi 0 (hb) ?_
  refine zx_if_eq (pc := 5) hF d_PS_load_5 (tgt := 26) rfl (fun h5 => ?_) (fun h5 => ?_)
  · refine zx_iconst (pc := 26) hF d_PS_load_26 k_i0 ?_
    refine zx_istore_n (pc := 27) hF (lv' := [(3, .int 0), (0, .ref ps0), (1, .int b), (2, .int (nI q))]) d_PS_load_27 rfl (by decide) rfl ?_
    refine zx_aload_n (pc := 28) hF d_PS_load_28 rfl 1 rfl ?_
    refine zx_iload_n (pc := 29) hF d_PS_load_29 rfl 3 rfl ?_
    refine zx_Vi (pc := 30) hF (As := [.int (nI q)]) (rest := []) (fun sz => M_PS_isServer l D K KB KS ps0 dg0 ba0 sa0 m kp0 wi0 hkp lca lre lta tim n rs (nI q) (by first | assumption | omega) sz) [0, 2] rfl (by decide) (as := [ps0, sa0]) rfl rfl (ws' := [cO ps0 0 [.ref dg0, .ref ba0, .ref sa0, .int (nI m), .ref kp0, .ref wi0, .int hkp, .int lca, .int lre, .int lta, .int tim], cR KB ba0 B rb, cR KS sa0 n rs, cO v0 5 [.ref c0, .ref c1, .int on, .int tk, .ref v1, .ref v2], cO c0 6 [.ref c2, .ref c3, .ref c4, .int cnt2], cI K c2 10 src2, cI K c3 10 prt2, cZ K c4 10 use2]) rfl 0 0 rfl rfl rfl (cw_PS_139 hF.2.2.2.2.1 rfl rfl ⟨by decide, by decide⟩) rfl rfl (Nat.le_of_ble_eq_true rfl) d_PS_load_30 ⟨Nat.zero_le _, Nat.zero_le _⟩ ?_
    refine zx_topi 1 (g_is_in hq (by omega)) ?_
    refine zx_if_eq (pc := 33) hF d_PS_load_33 (tgt := 51) rfl (fun h33 => ?_) (fun h33 => ?_)
    · exact absurd h33 (by decide)
    · refine zx_aload_n (pc := 36) hF d_PS_load_36 rfl 1 rfl ?_
      refine zg_PS_54 (pc := 37) hF 0 rfl rfl d_PS_load_37 ?_
      refine zx_iload_n (pc := 40) hF d_PS_load_40 rfl 3 rfl ?_
      refine zx_aldq (pc := 41) hF 2 4 rfl rfl (vp_in_nI hq (by omega)) (by rw [nI_clamp (by omega)]; exact hrs) d_PS_load_41 ?_
      refine zg_PS_193 (pc := 42) hF 3 rfl rfl d_PS_load_42 ?_
      refine zx_Vi (pc := 45) hF (As := []) (rest := []) (fun sz => M_Slo_used l D K (zM2 KB KS) c0 c2 c3 c4 10 src2 prt2 use2 cnt2  sz) [4, 5, 6, 7] rfl (by decide) (as := [c0, c2, c3, c4]) rfl rfl (ws' := [cO ps0 0 [.ref dg0, .ref ba0, .ref sa0, .int (nI m), .ref kp0, .ref wi0, .int hkp, .int lca, .int lre, .int lta, .int tim], cR KB ba0 B rb, cR KS sa0 n rs, cO v0 5 [.ref c0, .ref c1, .int on, .int tk, .ref v1, .ref v2], cO c0 6 [.ref c2, .ref c3, .ref c4, .int cnt2], cI K c2 10 src2, cI K c3 10 prt2, cZ K c4 10 use2]) rfl 0 6 rfl rfl rfl (cw_PS_187 hF.2.2.2.2.1 rfl rfl ⟨by decide, by decide⟩) rfl rfl (Nat.le_of_ble_eq_true rfl) d_PS_load_45 ⟨Nat.zero_le _, Nat.zero_le _⟩ ?_
      refine zx_goto (pc := 48) hF d_PS_load_48 (tgt := 52) rfl ?_
      refine zx_istore (pc := 52) hF (lv' := [(4, .int cnt2), (3, .int 0), (0, .ref ps0), (1, .int b), (2, .int (nI q))]) d_PS_load_52 (by decide) rfl ?_
      refine zx_iload_n (pc := 54) hF d_PS_load_54 rfl 1 rfl ?_
      refine zx_bipush (pc := 55) hF d_PS_load_55 k_b100 ?_
      refine zx_iload (pc := 57) hF d_PS_load_57 0 rfl ?_
      refine zx_imul (pc := 59) hF d_PS_load_59 ?_
      refine zx_iadd (pc := 60) hF d_PS_load_60 ?_
      exact zx_iret (pc := 61) hF hr hlk (by first | rfl | (simp only []; done) | (simp only [↓reduceIte]; done) | simp []) (by first | rfl | (simp only []; done) | (simp only [↓reduceIte]; done) | simp []) d_PS_load_61
  · exact absurd h5 (by decide)
set_option maxRecDepth 20000 in
theorem M_PS_load_n (l : Launch) (D : va_G) (K : Nat → ClassId) (KB KS : ClassId) (ps0 : Nat) (dg0 : Nat) (ba0 : Nat) (sa0 : Nat) (m : Nat) (kp0 : Nat) (wi0 : Nat) (hkp : Int32) (lca : Int32) (lre : Int32) (lta : Int32) (tim : Int32) (B : Nat) (rb : Nat → Option Nat) (n : Nat) (rs : Nat → Option Nat) (b : Int32) (q : Int32) (hB : B ≤ 4) (hS : n ≤ 8) (hb : g_is b B = 0) (hq : g_is q n = 0) (sz : Nat) : zM l y_PS_load (zT y_PS_load b_PS_load 5 (some .int)) (zR 1 21) 0 0 D K (zM2 KB KS) [.ref ps0, .int b, .int q] [cO ps0 0 [.ref dg0, .ref ba0, .ref sa0, .int (nI m), .ref kp0, .ref wi0, .int hkp, .int lca, .int lre, .int lta, .int tim], cR KB ba0 B rb, cR KS sa0 n rs] sz (zQi D K (zM2 KB KS) 0 [cO ps0 0 [.ref dg0, .ref ba0, .ref sa0, .int (nI m), .ref kp0, .ref wi0, .int hkp, .int lca, .int lre, .int lta, .int tim], cR KB ba0 B rb, cR KS sa0 n rs]) := by
  refine zx_head (by decide) (Nat.le_of_ble_eq_true rfl) ?_
  intro _ _ _ _ _ _ _ _ _ hF hr hlk hnm
  refine zx_aload_n (pc := 0) hF d_PS_load_0 rfl 0 rfl ?_
  refine zx_iload_n (pc := 1) hF d_PS_load_1 rfl 1 rfl ?_
  refine zx_Vi (pc := 2) hF (As := [.int b]) (rest := []) (fun sz => M_PS_isBalancer l D K KB KS ps0 dg0 ba0 sa0 m kp0 wi0 hkp lca lre lta tim B rb b (by first | assumption | omega) sz) [0, 1] rfl (by decide) (as := [ps0, ba0]) rfl rfl (ws' := [cO ps0 0 [.ref dg0, .ref ba0, .ref sa0, .int (nI m), .ref kp0, .ref wi0, .int hkp, .int lca, .int lre, .int lta, .int tim], cR KB ba0 B rb, cR KS sa0 n rs]) rfl 0 0 rfl rfl rfl (cw_PS_127 hF.2.2.2.2.1 rfl rfl ⟨by decide, by decide⟩) rfl rfl (Nat.le_of_ble_eq_true rfl) d_PS_load_2 ⟨Nat.zero_le _, Nat.zero_le _⟩ ?_
  refine zx_topi 0 (hb) ?_
  refine zx_if_eq (pc := 5) hF d_PS_load_5 (tgt := 26) rfl (fun h5 => ?_) (fun h5 => ?_)
  · refine zx_iconst (pc := 26) hF d_PS_load_26 k_i0 ?_
    refine zx_istore_n (pc := 27) hF (lv' := [(3, .int 0), (0, .ref ps0), (1, .int b), (2, .int q)]) d_PS_load_27 rfl (by decide) rfl ?_
    refine zx_aload_n (pc := 28) hF d_PS_load_28 rfl 1 rfl ?_
    refine zx_iload_n (pc := 29) hF d_PS_load_29 rfl 3 rfl ?_
    refine zx_Vi (pc := 30) hF (As := [.int q]) (rest := []) (fun sz => M_PS_isServer l D K KB KS ps0 dg0 ba0 sa0 m kp0 wi0 hkp lca lre lta tim n rs q (by first | assumption | omega) sz) [0, 2] rfl (by decide) (as := [ps0, sa0]) rfl rfl (ws' := [cO ps0 0 [.ref dg0, .ref ba0, .ref sa0, .int (nI m), .ref kp0, .ref wi0, .int hkp, .int lca, .int lre, .int lta, .int tim], cR KB ba0 B rb, cR KS sa0 n rs]) rfl 0 0 rfl rfl rfl (cw_PS_139 hF.2.2.2.2.1 rfl rfl ⟨by decide, by decide⟩) rfl rfl (Nat.le_of_ble_eq_true rfl) d_PS_load_30 ⟨Nat.zero_le _, Nat.zero_le _⟩ ?_
    refine zx_topi 0 (hq) ?_
    refine zx_if_eq (pc := 33) hF d_PS_load_33 (tgt := 51) rfl (fun h33 => ?_) (fun h33 => ?_)
    · refine zx_iconst (pc := 51) hF d_PS_load_51 k_i0 ?_
      refine zx_istore (pc := 52) hF (lv' := [(4, .int 0), (3, .int 0), (0, .ref ps0), (1, .int b), (2, .int q)]) d_PS_load_52 (by decide) rfl ?_
      refine zx_iload_n (pc := 54) hF d_PS_load_54 rfl 1 rfl ?_
      refine zx_bipush (pc := 55) hF d_PS_load_55 k_b100 ?_
      refine zx_iload (pc := 57) hF d_PS_load_57 0 rfl ?_
      refine zx_imul (pc := 59) hF d_PS_load_59 ?_
      refine zx_iadd (pc := 60) hF d_PS_load_60 ?_
      exact zx_iret (pc := 61) hF hr hlk (by first | rfl | (simp only []; done) | (simp only [↓reduceIte]; done) | simp []) (by first | rfl | (simp only []; done) | (simp only [↓reduceIte]; done) | simp []) d_PS_load_61
    · exact absurd h33 (by decide)
  · exact absurd h5 (by decide)
