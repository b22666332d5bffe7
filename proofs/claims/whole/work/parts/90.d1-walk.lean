set_option maxRecDepth 20000 in
theorem M_PS_isKind (l : Launch) (D : va_G) (K : Nat → ClassId) (M : List (ClassId × FieldType)) (fl : Int32) (sz : Nat) : zM l y_PS_isKind (zT y_PS_isKind b_PS_isKind 1 (some .boolean)) (zR 0 0) 0 0 D K M [.int fl] [] sz (zQi D K M (f_kind fl) []) := by
  refine zx_head (by decide) (Nat.le_of_ble_eq_true rfl) ?_
  intro _ _ _ _ _ _ _ _ _ hF hr hlk hnm
  refine zx_iload_n (pc := 0) hF d_PS_isKind_0 rfl 0 rfl ?_
  refine zx_iconst (pc := 1) hF d_PS_isKind_1 k_i2 ?_
  refine zx_icmp_eq (pc := 2) hF d_PS_isKind_2 (tgt := 22) rfl (fun h2 => ?_) (fun h2 => ?_)
  · refine zx_iconst (pc := 22) hF d_PS_isKind_22 k_i1 ?_
    refine zx_goto (pc := 23) hF d_PS_isKind_23 (tgt := 27) rfl ?_
    exact zx_zret (pc := 27) hF hr hlk rfl (by first | with_reducible rfl | (simp only [f_kind, if_pos h2]; done) | (simp only [f_kind, h2, ↓reduceIte]; done) | simp [f_kind, h2]) (by first | with_reducible rfl | (simp only [f_kind, if_pos h2]; done) | (simp only [f_kind, h2, ↓reduceIte]; done) | simp [f_kind, h2]) d_PS_isKind_27
  · refine zx_iload_n (pc := 5) hF d_PS_isKind_5 rfl 0 rfl ?_
    refine zx_bipush (pc := 6) hF d_PS_isKind_6 k_b16 ?_
    refine zx_icmp_eq (pc := 8) hF d_PS_isKind_8 (tgt := 22) rfl (fun h8 => ?_) (fun h8 => ?_)
    · refine zx_iconst (pc := 22) hF d_PS_isKind_22 k_i1 ?_
      refine zx_goto (pc := 23) hF d_PS_isKind_23 (tgt := 27) rfl ?_
      exact zx_zret (pc := 27) hF hr hlk rfl (by first | with_reducible rfl | (simp only [f_kind, if_neg h2, if_pos h8]; done) | (simp only [f_kind, h2, h8, ↓reduceIte]; done) | simp [f_kind, h2, h8]) (by first | with_reducible rfl | (simp only [f_kind, if_neg h2, if_pos h8]; done) | (simp only [f_kind, h2, h8, ↓reduceIte]; done) | simp [f_kind, h2, h8]) d_PS_isKind_27
    · refine zx_iload_n (pc := 11) hF d_PS_isKind_11 rfl 0 rfl ?_
      refine zx_bipush (pc := 12) hF d_PS_isKind_12 k_b17 ?_
      refine zx_icmp_eq (pc := 14) hF d_PS_isKind_14 (tgt := 22) rfl (fun h14 => ?_) (fun h14 => ?_)
      · refine zx_iconst (pc := 22) hF d_PS_isKind_22 k_i1 ?_
        refine zx_goto (pc := 23) hF d_PS_isKind_23 (tgt := 27) rfl ?_
        exact zx_zret (pc := 27) hF hr hlk rfl (by first | with_reducible rfl | (simp only [f_kind, if_neg h2, if_neg h8, if_pos h14]; done) | (simp only [f_kind, h2, h8, h14, ↓reduceIte]; done) | simp [f_kind, h2, h8, h14]) (by first | with_reducible rfl | (simp only [f_kind, if_neg h2, if_neg h8, if_pos h14]; done) | (simp only [f_kind, h2, h8, h14, ↓reduceIte]; done) | simp [f_kind, h2, h8, h14]) d_PS_isKind_27
      · refine zx_iload_n (pc := 17) hF d_PS_isKind_17 rfl 0 rfl ?_
        refine zx_iconst (pc := 18) hF d_PS_isKind_18 k_i4 ?_
        refine zx_icmp_ne (pc := 19) hF d_PS_isKind_19 (tgt := 26) rfl (fun h19 => ?_) (fun h19 => ?_)
        · refine zx_iconst (pc := 26) hF d_PS_isKind_26 k_i0 ?_
          exact zx_zret (pc := 27) hF hr hlk rfl (by first | with_reducible rfl | (simp only [f_kind, if_neg h2, if_neg h8, if_neg h14, if_neg h19]; done) | (simp only [f_kind, h2, h8, h14, h19, ↓reduceIte]; done) | simp [f_kind, h2, h8, h14, h19]) (by first | with_reducible rfl | (simp only [f_kind, if_neg h2, if_neg h8, if_neg h14, if_neg h19]; done) | (simp only [f_kind, h2, h8, h14, h19, ↓reduceIte]; done) | simp [f_kind, h2, h8, h14, h19]) d_PS_isKind_27
        · refine zx_iconst (pc := 22) hF d_PS_isKind_22 k_i1 ?_
          refine zx_goto (pc := 23) hF d_PS_isKind_23 (tgt := 27) rfl ?_
          exact zx_zret (pc := 27) hF hr hlk rfl (by first | with_reducible rfl | (simp only [f_kind, if_neg h2, if_neg h8, if_neg h14, if_pos h19]; done) | (simp only [f_kind, h2, h8, h14, h19, ↓reduceIte]; done) | simp [f_kind, h2, h8, h14, h19]) (by first | with_reducible rfl | (simp only [f_kind, if_neg h2, if_neg h8, if_neg h14, if_pos h19]; done) | (simp only [f_kind, h2, h8, h14, h19, ↓reduceIte]; done) | simp [f_kind, h2, h8, h14, h19]) d_PS_isKind_27
set_option maxRecDepth 20000 in
theorem M_PS_joined (l : Launch) (D : va_G) (K : Nat → ClassId) (M : List (ClassId × FieldType)) (s0 : Int32) (p0 : Int32) (sz : Nat) : zM l y_PS_joined (zT y_PS_joined b_PS_joined 2 (some .long)) (zR 0 0) 0 0 D K M [.int s0, .int p0] [] sz (zQl D K M (f_join s0 p0) []) := by
  refine zx_head (by decide) (Nat.le_of_ble_eq_true rfl) ?_
  intro _ _ _ _ _ _ _ _ _ hF hr hlk hnm
  refine zx_iload_n (pc := 0) hF d_PS_joined_0 rfl 0 rfl ?_
  refine zx_i2l (pc := 1) hF (v := (Int32.toInt64 s0)) d_PS_joined_1 rfl ?_
  refine zx_bipush (pc := 2) hF d_PS_joined_2 k_b32 ?_
  refine zx_lshl (pc := 4) hF (v := (zlshl (Int32.toInt64 s0) 32)) d_PS_joined_4 rfl ?_
  refine zx_iload_n (pc := 5) hF d_PS_joined_5 rfl 1 rfl ?_
  refine zx_i2l (pc := 6) hF (v := (Int32.toInt64 p0)) d_PS_joined_6 rfl ?_
  refine zx_ldc2 (pc := 7) hF wk_PS_194 d_PS_joined_7 ?_
  refine zx_land (pc := 10) hF d_PS_joined_10 ?_
  refine zx_lor (pc := 11) hF d_PS_joined_11 ?_
  exact zx_lret (pc := 12) hF hr hlk (by first | rfl | (simp only []; done) | (simp only [↓reduceIte]; done) | simp []) (by first | rfl | (simp only []; done) | (simp only [↓reduceIte]; done) | simp []) d_PS_joined_12
set_option maxRecDepth 20000 in
theorem M_PS_clamp (l : Launch) (D : va_G) (K : Nat → ClassId) (M : List (ClassId × FieldType)) (x : Int32) (lo : Int32) (hi : Int32) (sz : Nat) : zM l y_PS_clamp (zT y_PS_clamp b_PS_clamp 3 (some .int)) (zR 1 21) 0 0 D K M [.int x, .int lo, .int hi] [] sz (zQi D K M (f_clamp x lo hi) []) := by
  refine zx_head (by decide) (Nat.le_of_ble_eq_true rfl) ?_
  intro _ _ _ _ _ _ _ _ _ hF hr hlk hnm
  refine zx_iload_n (pc := 0) hF d_PS_clamp_0 rfl 1 rfl ?_
  refine zx_iload_n (pc := 1) hF d_PS_clamp_1 rfl 2 rfl ?_
  refine zx_iload_n (pc := 2) hF d_PS_clamp_2 rfl 0 rfl ?_
  refine zx_mmin (pc := 3) hF wm_PS_233 (v := (if x < hi then x else hi)) rfl (Nat.le_of_ble_eq_true rfl) (Nat.le_of_ble_eq_true rfl) ⟨Nat.zero_le _, Nat.zero_le _⟩ d_PS_clamp_3 ?_
  refine zx_mmax (pc := 6) hF wm_PS_238 (v := (if lo < (if x < hi then x else hi) then (if x < hi then x else hi) else lo)) rfl (Nat.le_of_ble_eq_true rfl) (Nat.le_of_ble_eq_true rfl) ⟨Nat.zero_le _, Nat.zero_le _⟩ d_PS_clamp_6 ?_
  exact zx_iret (pc := 9) hF hr hlk (by first | rfl | (simp only []; done) | (simp only [↓reduceIte]; done) | simp []) (by first | rfl | (simp only []; done) | (simp only [↓reduceIte]; done) | simp []) d_PS_clamp_9
set_option maxRecDepth 20000 in
theorem M_PS_isPrime (l : Launch) (D : va_G) (K : Nat → ClassId) (M : List (ClassId × FieldType)) (N : Nat) (hN : N < 2 ^ 30) (sz : Nat) : zM l y_PS_isPrime (zT y_PS_isPrime b_PS_isPrime 2 (some .boolean)) (zR 0 0) 0 0 D K M [.int (nI N)] [] sz (zQi D K M (f_prm N (N - 2) 2) []) := by
  refine zx_head (by decide) (Nat.le_of_ble_eq_true rfl) ?_
  intro _ _ _ _ _ _ _ _ _ hF hr hlk hnm
  refine zx_iconst (pc := 0) hF d_PS_isPrime_0 k_i2 ?_
  refine zx_istore_n (pc := 1) hF (lv' := [(1, .int 2), (0, .int (nI N))]) d_PS_isPrime_1 rfl (by decide) rfl ?_
  refine zx_lv [1, 0] (lv' := [(0, .int (nI N)), (1, .int 2)]) rfl ?_
  refine zx_loop (pc := 2) (σ := Nat) (fun k zv => (k = N - zv) ∧ (2 ≤ zv ∧ zv ≤ N + 2) ∧ (f_prm N k zv = f_prm N (N - 2) 2)) (fun zv => []) (fun zv => [(0, .int (nI N)), (1, .int (nI zv))]) (N - 2) 2 ⟨rfl, by first | omega | (dsimp only; omega) | dsimp only, rfl⟩ rfl rfl ?_
  intro k d hI ih
  obtain ⟨hk, hd, hX⟩ := hI
  replace hk : k = N - d := hk
  replace hd : 2 ≤ d ∧ d ≤ N + 2 := hd
  replace hX : f_prm N k d = f_prm N (N - 2) 2 := hX
  refine zx_eq (ws' := []) (lv' := [(0, .int (nI N)), (1, .int (nI d))]) rfl rfl rfl ?_
  refine zx_iload_n (pc := 2) hF d_PS_isPrime_2 rfl 1 rfl ?_
  refine zx_iload_n (pc := 3) hF d_PS_isPrime_3 rfl 0 rfl ?_
  refine zx_icmp_ge (pc := 4) hF d_PS_isPrime_4 (tgt := 21) rfl (fun h4 => ?_) (fun h4 => ?_)
  · replace h4 : N ≤ d := (nI_leI (a := N) (b := d) (by omega) (by omega)).mp h4
    refine zx_iconst (pc := 21) hF d_PS_isPrime_21 k_i1 ?_
    exact zx_zret (pc := 22) hF hr hlk rfl (by obtain rfl : k = 0 := (by omega); exact hX) rfl d_PS_isPrime_22
  · replace h4 : ¬ N ≤ d := fun z => h4 ((nI_leI (a := N) (b := d) (by omega) (by omega)).mpr z)
    refine zx_iload_n (pc := 7) hF d_PS_isPrime_7 rfl 0 rfl ?_
    refine zx_iload_n (pc := 8) hF d_PS_isPrime_8 rfl 1 rfl ?_
    refine zx_irem (pc := 9) hF d_PS_isPrime_9 (nI_ne0 (by omega) (by omega)) ?_
    refine zx_topi (nI (N % d)) (pk_rem (a := N) (d := d) (by omega) (by omega) (by omega)) ?_
    refine zx_if_ne (pc := 10) hF d_PS_isPrime_10 (tgt := 15) rfl (fun h10 => ?_) (fun h10 => ?_)
    · replace h10 : ¬ (N % d) = 0 := fun z => h10 ((nI_eq (a := N % d) (b := 0) (Nat.lt_of_le_of_lt (Nat.mod_le _ _) (by omega)) (by omega)).mpr z)
      refine zx_iinc (pc := 15) hF (v := nI (d + 1)) (lv' := [(1, .int (nI (d + 1))), (0, .int (nI N))]) d_PS_isPrime_15 1 rfl (zinc d) (by decide) rfl ?_
      refine zx_goto (pc := 18) hF d_PS_isPrime_18 (tgt := 2) rfl ?_
      refine zx_lv [1, 0] (lv' := [(0, .int (nI N)), (1, .int (nI (d + 1)))]) rfl ?_
      exact ih (k - 1) (d + 1) (by omega) ⟨by first | omega | (dsimp only; omega) | dsimp only, by first | omega | (dsimp only; omega) | dsimp only, by obtain ⟨k', rfl⟩ : ∃ k', k = k' + 1 := ⟨k - 1, by omega⟩; simpa [f_prm, h10] using hX⟩
    · replace h10 : (N % d) = 0 := (nI_eq (a := N % d) (b := 0) (Nat.lt_of_le_of_lt (Nat.mod_le _ _) (by omega)) (by omega)).mp h10
      refine zx_iconst (pc := 13) hF d_PS_isPrime_13 k_i0 ?_
      exact zx_zret (pc := 14) hF hr hlk rfl (by obtain ⟨k', rfl⟩ : ∃ k', k = k' + 1 := ⟨k - 1, by omega⟩; simpa [f_prm, h10] using hX) rfl d_PS_isPrime_14
set_option maxRecDepth 20000 in
theorem M_PS_primeFrom (l : Launch) (D : va_G) (K : Nat → ClassId) (M : List (ClassId × FieldType)) (N : Nat) (hN : N ≤ 101) (sz : Nat) : zM l y_PS_primeFrom (zT y_PS_primeFrom b_PS_primeFrom 2 (some .int)) (zR 1 21) 0 0 D K M [.int (nI N)] [] sz (zQi D K M (nI (f_pf (101 - N) N)) []) := by
  refine zx_head (by decide) (Nat.le_of_ble_eq_true rfl) ?_
  intro _ _ _ _ _ _ _ _ _ hF hr hlk hnm
  refine zx_iload_n (pc := 0) hF d_PS_primeFrom_0 rfl 0 rfl ?_
  refine zx_istore_n (pc := 1) hF (lv' := [(1, .int (nI N)), (0, .int (nI N))]) d_PS_primeFrom_1 rfl (by decide) rfl ?_
  refine zx_lv [1, 0] (lv' := [(0, .int (nI N)), (1, .int (nI N))]) rfl ?_
  refine zx_loop (pc := 2) (σ := Nat) (fun k zv => (zv + k = 101) ∧ (f_pf k zv = f_pf (101 - N) N)) (fun zv => []) (fun zv => [(0, .int (nI N)), (1, .int (nI zv))]) (101 - N) N ⟨by first | omega | (dsimp only; omega) | dsimp only, rfl⟩ rfl rfl ?_
  intro k a hI ih
  obtain ⟨hk, hX⟩ := hI
  replace hk : a + k = 101 := hk
  replace hX : f_pf k a = f_pf (101 - N) N := hX
  refine zx_eq (ws' := []) (lv' := [(0, .int (nI N)), (1, .int (nI a))]) rfl rfl rfl ?_
  refine zx_iload_n (pc := 2) hF d_PS_primeFrom_2 rfl 1 rfl ?_
  refine zx_bipush (pc := 3) hF d_PS_primeFrom_3 k_b101 ?_
  refine zx_icmp_ge (pc := 5) hF d_PS_primeFrom_5 (tgt := 23) rfl (fun h5 => ?_) (fun h5 => ?_)
  · replace h5 : 101 ≤ a := (nI_leI (a := 101) (b := a) (by omega) (by omega)).mp h5
    refine zx_bipush (pc := 23) hF d_PS_primeFrom_23 k_b101 ?_
    exact zx_iret (pc := 25) hF hr hlk (by obtain rfl : k = 0 := (by omega); rw [← hX]; rfl) rfl d_PS_primeFrom_25
  · replace h5 : ¬ 101 ≤ a := fun z => h5 ((nI_leI (a := 101) (b := a) (by omega) (by omega)).mpr z)
    refine zx_iload_n (pc := 8) hF d_PS_primeFrom_8 rfl 1 rfl ?_
    refine zx_Si (pc := 9) hF (As := [.int (nI a)]) (rest := []) (fun sz => M_PS_isPrime l D K M a (by first | assumption | omega) sz) [] rfl List.nodup_nil (as := []) rfl rfl (ws' := []) rfl (cw_PS_241 hF.2.2.2.2.1 rfl rfl ⟨by decide, by decide⟩) rfl rfl (Nat.le_of_ble_eq_true rfl) d_PS_primeFrom_9 ⟨Nat.zero_le _, Nat.zero_le _⟩ ?_
    refine zx_if_eq (pc := 12) hF d_PS_primeFrom_12 (tgt := 17) rfl (fun h12 => ?_) (fun h12 => ?_)
    · refine zx_iinc (pc := 17) hF (v := nI (a + 1)) (lv' := [(1, .int (nI (a + 1))), (0, .int (nI N))]) d_PS_primeFrom_17 1 rfl (zinc a) (by decide) rfl ?_
      refine zx_goto (pc := 20) hF d_PS_primeFrom_20 (tgt := 2) rfl ?_
      refine zx_lv [1, 0] (lv' := [(0, .int (nI N)), (1, .int (nI (a + 1)))]) rfl ?_
      exact ih (k - 1) (a + 1) (by omega) ⟨by first | omega | (dsimp only; omega) | dsimp only, by obtain ⟨k', rfl⟩ : ∃ k', k = k' + 1 := ⟨k - 1, by omega⟩; simpa [f_pf, h12] using hX⟩
    · refine zx_iload_n (pc := 15) hF d_PS_primeFrom_15 rfl 1 rfl ?_
      exact zx_iret (pc := 16) hF hr hlk (by obtain ⟨k', rfl⟩ : ∃ k', k = k' + 1 := ⟨k - 1, by omega⟩; rw [← hX]; simp [f_pf, h12]) rfl d_PS_primeFrom_16
set_option maxRecDepth 20000 in
theorem M_PS_faultOf (l : Launch) (D : va_G) (K : Nat → ClassId) (M : List (ClassId × FieldType)) (w0 : Int32) (w1 : Int32) (w2 : Int32) (w3 : Int32) (w4 : Int32) (sz : Nat) : zM l y_PS_faultOf (zT y_PS_faultOf b_PS_faultOf 6 (some .int)) (zR 2 45) 0 0 D K M [.int w0, .int w1, .int w2, .int w3, .int w4] [] sz (zQi D K M (f_hd w0 w1 w2 w3 w4) []) := by
  refine zx_head (by decide) (Nat.le_of_ble_eq_true rfl) ?_
  intro _ _ _ _ _ _ _ _ _ hF hr hlk hnm
  refine zx_iload_n (pc := 0) hF d_PS_faultOf_0 rfl 0 rfl ?_
  refine zx_bipush (pc := 1) hF d_PS_faultOf_1 k_b24 ?_
  refine zx_iushr (pc := 3) hF (v := (ziushr w0 24)) d_PS_faultOf_3 rfl ?_
  refine zx_bipush (pc := 4) hF d_PS_faultOf_4 k_b69 ?_
  refine zx_icmp_eq (pc := 6) hF d_PS_faultOf_6 (tgt := 11) rfl (fun h6 => ?_) (fun h6 => ?_)
  · refine zx_iload_n (pc := 11) hF d_PS_faultOf_11 rfl 0 rfl ?_
    refine zx_iload_n (pc := 12) hF d_PS_faultOf_12 rfl 1 rfl ?_
    refine zx_iload_n (pc := 13) hF d_PS_faultOf_13 rfl 2 rfl ?_
    refine zx_iload_n (pc := 14) hF d_PS_faultOf_14 rfl 3 rfl ?_
    refine zx_iload (pc := 15) hF d_PS_faultOf_15 4 rfl ?_
    refine zx_Si (pc := 17) hF (As := [.int w0, .int w1, .int w2, .int w3, .int w4]) (rest := []) (fun sz => M_Sum_sumOf l D K M w0 w1 w2 w3 w4  sz) [] rfl List.nodup_nil (as := []) rfl rfl (ws' := []) rfl (cw_PS_228 hF.2.2.2.2.1 rfl rfl ⟨by decide, by decide⟩) rfl rfl (Nat.le_of_ble_eq_true rfl) d_PS_faultOf_17 ⟨Nat.zero_le _, Nat.zero_le _⟩ ?_
    refine zx_ldc (pc := 20) hF wk_PS_231 d_PS_faultOf_20 ?_
    refine zx_icmp_eq (pc := 22) hF d_PS_faultOf_22 (tgt := 27) rfl (fun h22 => ?_) (fun h22 => ?_)
    · refine zx_iload_n (pc := 27) hF d_PS_faultOf_27 rfl 0 rfl ?_
      refine zx_ldc (pc := 28) hF wk_PS_231 d_PS_faultOf_28 ?_
      refine zx_iand (pc := 30) hF d_PS_faultOf_30 ?_
      refine zx_istore (pc := 31) hF (lv' := [(5, .int (w0 &&& 65535)), (0, .int w0), (1, .int w1), (2, .int w2), (3, .int w3), (4, .int w4)]) d_PS_faultOf_31 (by decide) rfl ?_
      refine zx_iload (pc := 33) hF d_PS_faultOf_33 0 rfl ?_
      refine zx_bipush (pc := 35) hF d_PS_faultOf_35 k_b40 ?_
      refine zx_icmp_lt (pc := 37) hF d_PS_faultOf_37 (tgt := 48) rfl (fun h37 => ?_) (fun h37 => ?_)
      · refine zx_iconst (pc := 48) hF d_PS_faultOf_48 k_i3 ?_
        exact zx_iret (pc := 49) hF hr hlk (by unfold f_hd; rw [if_pos h6, if_pos h22, if_pos h37]) rfl d_PS_faultOf_49
      · refine zx_iload (pc := 40) hF d_PS_faultOf_40 0 rfl ?_
        refine zx_sipush (pc := 42) hF d_PS_faultOf_42 k_s1480 ?_
        refine zx_icmp_le (pc := 45) hF d_PS_faultOf_45 (tgt := 50) rfl (fun h45 => ?_) (fun h45 => ?_)
        · refine zx_iload_n (pc := 50) hF d_PS_faultOf_50 rfl 2 rfl ?_
          refine zx_sipush (pc := 51) hF d_PS_faultOf_51 k_s16383 ?_
          refine zx_iand (pc := 54) hF d_PS_faultOf_54 ?_
          refine zx_if_eq (pc := 55) hF d_PS_faultOf_55 (tgt := 60) rfl (fun h55 => ?_) (fun h55 => ?_)
          · refine zx_iload_n (pc := 60) hF d_PS_faultOf_60 rfl 3 rfl ?_
            refine zx_bipush (pc := 61) hF d_PS_faultOf_61 k_b24 ?_
            refine zx_iushr (pc := 63) hF (v := (ziushr w2 24)) d_PS_faultOf_63 rfl ?_
            refine zx_if_ne (pc := 64) hF d_PS_faultOf_64 (tgt := 69) rfl (fun h64 => ?_) (fun h64 => ?_)
            · refine zx_iload_n (pc := 69) hF d_PS_faultOf_69 rfl 3 rfl ?_
              refine zx_bipush (pc := 70) hF d_PS_faultOf_70 k_b16 ?_
              refine zx_iushr (pc := 72) hF (v := (ziushr w2 16)) d_PS_faultOf_72 rfl ?_
              refine zx_sipush (pc := 73) hF d_PS_faultOf_73 k_s255 ?_
              refine zx_iand (pc := 76) hF d_PS_faultOf_76 ?_
              refine zx_bipush (pc := 77) hF d_PS_faultOf_77 k_b6 ?_
              refine zx_icmp_eq (pc := 79) hF d_PS_faultOf_79 (tgt := 85) rfl (fun h79 => ?_) (fun h79 => ?_)
              · refine zx_iload (pc := 85) hF d_PS_faultOf_85 5 rfl ?_
                refine zx_ldc (pc := 87) hF wk_PS_232 d_PS_faultOf_87 ?_
                refine zx_icmp_eq (pc := 89) hF d_PS_faultOf_89 (tgt := 97) rfl (fun h89 => ?_) (fun h89 => ?_)
                · refine zx_iconst (pc := 97) hF d_PS_faultOf_97 k_i0 ?_
                  exact zx_iret (pc := 98) hF hr hlk (by unfold f_hd; rw [if_pos h6, if_pos h22, if_neg h37, if_pos h45, if_pos h55, if_neg h64, if_pos h79, if_pos h89]) rfl d_PS_faultOf_98
                · refine zx_bipush (pc := 92) hF d_PS_faultOf_92 k_b7 ?_
                  refine zx_goto (pc := 94) hF d_PS_faultOf_94 (tgt := 98) rfl ?_
                  exact zx_iret (pc := 98) hF hr hlk (by unfold f_hd; rw [if_pos h6, if_pos h22, if_neg h37, if_pos h45, if_pos h55, if_neg h64, if_pos h79, if_neg h89]) rfl d_PS_faultOf_98
              · refine zx_bipush (pc := 82) hF d_PS_faultOf_82 k_b6 ?_
                exact zx_iret (pc := 84) hF hr hlk (by unfold f_hd; rw [if_pos h6, if_pos h22, if_neg h37, if_pos h45, if_pos h55, if_neg h64, if_neg h79]) rfl d_PS_faultOf_84
            · refine zx_iconst (pc := 67) hF d_PS_faultOf_67 k_i5 ?_
              exact zx_iret (pc := 68) hF hr hlk (by unfold f_hd; rw [if_pos h6, if_pos h22, if_neg h37, if_pos h45, if_pos h55, if_pos h64]) rfl d_PS_faultOf_68
          · refine zx_iconst (pc := 58) hF d_PS_faultOf_58 k_i4 ?_
            exact zx_iret (pc := 59) hF hr hlk (by unfold f_hd; rw [if_pos h6, if_pos h22, if_neg h37, if_pos h45, if_neg h55]) rfl d_PS_faultOf_59
        · refine zx_iconst (pc := 48) hF d_PS_faultOf_48 k_i3 ?_
          exact zx_iret (pc := 49) hF hr hlk (by unfold f_hd; rw [if_pos h6, if_pos h22, if_neg h37, if_neg h45]) rfl d_PS_faultOf_49
    · refine zx_iconst (pc := 25) hF d_PS_faultOf_25 k_i2 ?_
      exact zx_iret (pc := 26) hF hr hlk (by unfold f_hd; rw [if_pos h6, if_neg h22]) rfl d_PS_faultOf_26
  · refine zx_iconst (pc := 9) hF d_PS_faultOf_9 k_i1 ?_
    exact zx_iret (pc := 10) hF hr hlk (by unfold f_hd; rw [if_neg h6]) rfl d_PS_faultOf_10
set_option maxRecDepth 20000 in
theorem M_PS_checksum (l : Launch) (D : va_G) (K : Nat → ClassId) (M : List (ClassId × FieldType)) (ps0 : Nat) (dg0 : Nat) (ba0 : Nat) (sa0 : Nat) (m : Nat) (kp0 : Nat) (wi0 : Nat) (hkp : Int32) (lca : Int32) (lre : Int32) (lta : Int32) (tim : Int32) (w0 : Int32) (w1 : Int32) (w2 : Int32) (w3 : Int32) (w4 : Int32) (sz : Nat) : zM l y_PS_checksum (zT y_PS_checksum b_PS_checksum 6 (some .int)) (zR 3 69) 0 0 D K M [.ref ps0, .int w0, .int w1, .int w2, .int w3, .int w4] [cO ps0 0 [.ref dg0, .ref ba0, .ref sa0, .int (nI m), .ref kp0, .ref wi0, .int hkp, .int lca, .int lre, .int lta, .int tim]] sz (zQi D K M (f_cks w0 w1 w2 w3 w4) [cO ps0 0 [.ref dg0, .ref ba0, .ref sa0, .int (nI m), .ref kp0, .ref wi0, .int hkp, .int lca, .int lre, .int lta, .int tim]]) := by
  refine zx_head (by decide) (Nat.le_of_ble_eq_true rfl) ?_
  intro _ _ _ _ _ _ _ _ _ hF hr hlk hnm
  refine zx_iload_n (pc := 0) hF d_PS_checksum_0 rfl 1 rfl ?_
  refine zx_iload_n (pc := 1) hF d_PS_checksum_1 rfl 2 rfl ?_
  refine zx_iload_n (pc := 2) hF d_PS_checksum_2 rfl 3 rfl ?_
  refine zx_iload (pc := 3) hF d_PS_checksum_3 4 rfl ?_
  refine zx_iload (pc := 5) hF d_PS_checksum_5 5 rfl ?_
  refine zx_Si (pc := 7) hF (As := [.int w0, .int w1, .int w2, .int w3, .int w4]) (rest := []) (fun sz => M_Sum_rightChecksum l D K M w0 w1 w2 w3 w4  sz) [] rfl List.nodup_nil (as := []) rfl rfl (ws' := [cO ps0 0 [.ref dg0, .ref ba0, .ref sa0, .int (nI m), .ref kp0, .ref wi0, .int hkp, .int lca, .int lre, .int lta, .int tim]]) rfl (cw_PS_73 hF.2.2.2.2.1 rfl rfl ⟨by decide, by decide⟩) rfl rfl (Nat.le_of_ble_eq_true rfl) d_PS_checksum_7 ⟨Nat.zero_le _, Nat.zero_le _⟩ ?_
  exact zx_iret (pc := 10) hF hr hlk (by first | rfl | (simp only []; done) | (simp only [↓reduceIte]; done) | simp []) (by first | rfl | (simp only []; done) | (simp only [↓reduceIte]; done) | simp []) d_PS_checksum_10
set_option maxRecDepth 20000 in
theorem M_PS_header (l : Launch) (D : va_G) (K : Nat → ClassId) (M : List (ClassId × FieldType)) (ps0 : Nat) (dg0 : Nat) (ba0 : Nat) (sa0 : Nat) (m : Nat) (kp0 : Nat) (wi0 : Nat) (hkp : Int32) (lca : Int32) (lre : Int32) (lta : Int32) (tim : Int32) (kp : Nat → Int32) (w0 : Int32) (w1 : Int32) (w2 : Int32) (w3 : Int32) (w4 : Int32) (sz : Nat) : zM l y_PS_header (zT y_PS_header b_PS_header 7 (some .int)) (zR 3 70) 0 0 D K M [.ref ps0, .int w0, .int w1, .int w2, .int w3, .int w4] [cO ps0 0 [.ref dg0, .ref ba0, .ref sa0, .int (nI m), .ref kp0, .ref wi0, .int hkp, .int lca, .int lre, .int lta, .int tim], cI K kp0 5 kp] sz (zQi D K M (f_hd w0 w1 w2 w3 w4) [cO ps0 0 [.ref dg0, .ref ba0, .ref sa0, .int (nI m), .ref kp0, .ref wi0, .int (f_hk w0 w1 w2 w3 w4 hkp), .int lca, .int lre, .int lta, .int tim], cI K kp0 5 (f_kp w0 w1 w2 w3 w4 kp)]) := by
  refine zx_head (by decide) (Nat.le_of_ble_eq_true rfl) ?_
  intro _ _ _ _ _ _ _ _ _ hF hr hlk hnm
  refine zx_iload_n (pc := 0) hF d_PS_header_0 rfl 1 rfl ?_
  refine zx_iload_n (pc := 1) hF d_PS_header_1 rfl 2 rfl ?_
  refine zx_iload_n (pc := 2) hF d_PS_header_2 rfl 3 rfl ?_
  refine zx_iload (pc := 3) hF d_PS_header_3 4 rfl ?_
  refine zx_iload (pc := 5) hF d_PS_header_5 5 rfl ?_
  refine zx_Si (pc := 7) hF (As := [.int w0, .int w1, .int w2, .int w3, .int w4]) (rest := []) (fun sz => M_PS_faultOf l D K M w0 w1 w2 w3 w4  sz) [] rfl List.nodup_nil (as := []) rfl rfl (ws' := [cO ps0 0 [.ref dg0, .ref ba0, .ref sa0, .int (nI m), .ref kp0, .ref wi0, .int hkp, .int lca, .int lre, .int lta, .int tim], cI K kp0 5 kp]) rfl (cw_PS_79 hF.2.2.2.2.1 rfl rfl ⟨by decide, by decide⟩) rfl rfl (Nat.le_of_ble_eq_true rfl) d_PS_header_7 ⟨Nat.zero_le _, Nat.zero_le _⟩ ?_
  refine zx_istore (pc := 10) hF (lv' := [(6, .int (f_hd w0 w1 w2 w3 w4)), (0, .ref ps0), (1, .int w0), (2, .int w1), (3, .int w2), (4, .int w3), (5, .int w4)]) d_PS_header_10 (by decide) rfl ?_
  refine zx_iload (pc := 12) hF d_PS_header_12 0 rfl ?_
  refine zx_if_ne (pc := 14) hF d_PS_header_14 (tgt := 59) rfl (fun h14 => ?_) (fun h14 => ?_)
  · refine zx_iload (pc := 59) hF d_PS_header_59 0 rfl ?_
    exact zx_iret (pc := 61) hF hr hlk rfl (by simp only [f_hk, f_kp, if_neg h14]) d_PS_header_61
  · refine zx_aload_n (pc := 17) hF d_PS_header_17 rfl 1 rfl ?_
    refine zg_PS_7 (pc := 18) hF 0 rfl rfl d_PS_header_18 ?_
    refine zx_iconst (pc := 21) hF d_PS_header_21 k_i0 ?_
    refine zx_iload_n (pc := 22) hF d_PS_header_22 rfl 2 rfl ?_
    refine zx_iastn (pc := 23) hF (i := 0) 1 rfl (by omega) (by omega) d_PS_header_23 (ws' := [cO ps0 0 [.ref dg0, .ref ba0, .ref sa0, .int (nI m), .ref kp0, .ref wi0, .int hkp, .int lca, .int lre, .int lta, .int tim], cI K kp0 5 (upd kp 0 w0)]) rfl ?_
    refine zx_aload_n (pc := 24) hF d_PS_header_24 rfl 1 rfl ?_
    refine zg_PS_7 (pc := 25) hF 0 rfl rfl d_PS_header_25 ?_
    refine zx_iconst (pc := 28) hF d_PS_header_28 k_i1 ?_
    refine zx_iload_n (pc := 29) hF d_PS_header_29 rfl 3 rfl ?_
    refine zx_iastn (pc := 30) hF (i := 1) 1 rfl (by omega) (by omega) d_PS_header_30 (ws' := [cO ps0 0 [.ref dg0, .ref ba0, .ref sa0, .int (nI m), .ref kp0, .ref wi0, .int hkp, .int lca, .int lre, .int lta, .int tim], cI K kp0 5 (upd (upd kp 0 w0) 1 w1)]) rfl ?_
    refine zx_aload_n (pc := 31) hF d_PS_header_31 rfl 1 rfl ?_
    refine zg_PS_7 (pc := 32) hF 0 rfl rfl d_PS_header_32 ?_
    refine zx_iconst (pc := 35) hF d_PS_header_35 k_i2 ?_
    refine zx_iload_n (pc := 36) hF d_PS_header_36 rfl 4 rfl ?_
    refine zx_iastn (pc := 37) hF (i := 2) 1 rfl (by omega) (by omega) d_PS_header_37 (ws' := [cO ps0 0 [.ref dg0, .ref ba0, .ref sa0, .int (nI m), .ref kp0, .ref wi0, .int hkp, .int lca, .int lre, .int lta, .int tim], cI K kp0 5 (upd (upd (upd kp 0 w0) 1 w1) 2 w2)]) rfl ?_
    refine zx_aload_n (pc := 38) hF d_PS_header_38 rfl 1 rfl ?_
    refine zg_PS_7 (pc := 39) hF 0 rfl rfl d_PS_header_39 ?_
    refine zx_iconst (pc := 42) hF d_PS_header_42 k_i3 ?_
    refine zx_iload (pc := 43) hF d_PS_header_43 5 rfl ?_
    refine zx_iastn (pc := 45) hF (i := 3) 1 rfl (by omega) (by omega) d_PS_header_45 (ws' := [cO ps0 0 [.ref dg0, .ref ba0, .ref sa0, .int (nI m), .ref kp0, .ref wi0, .int hkp, .int lca, .int lre, .int lta, .int tim], cI K kp0 5 (upd (upd (upd (upd kp 0 w0) 1 w1) 2 w2) 3 w3)]) rfl ?_
    refine zx_aload_n (pc := 46) hF d_PS_header_46 rfl 1 rfl ?_
    refine zg_PS_7 (pc := 47) hF 0 rfl rfl d_PS_header_47 ?_
    refine zx_iconst (pc := 50) hF d_PS_header_50 k_i4 ?_
    refine zx_iload (pc := 51) hF d_PS_header_51 6 rfl ?_
    refine zx_iastn (pc := 53) hF (i := 4) 1 rfl (by omega) (by omega) d_PS_header_53 (ws' := [cO ps0 0 [.ref dg0, .ref ba0, .ref sa0, .int (nI m), .ref kp0, .ref wi0, .int hkp, .int lca, .int lre, .int lta, .int tim], cI K kp0 5 (upd (upd (upd (upd (upd kp 0 w0) 1 w1) 2 w2) 3 w3) 4 w4)]) rfl ?_
    refine zx_aload_n (pc := 54) hF d_PS_header_54 rfl 1 rfl ?_
    refine zx_iconst (pc := 55) hF d_PS_header_55 k_i1 ?_
    refine zp_PS_82 (pc := 56) hF 0 rfl (Or.inr rfl) (Nat.le_of_ble_eq_true rfl) d_PS_header_56 (ws' := [cO ps0 0 [.ref dg0, .ref ba0, .ref sa0, .int (nI m), .ref kp0, .ref wi0, .int 1, .int lca, .int lre, .int lta, .int tim], cI K kp0 5 (upd (upd (upd (upd (upd kp 0 w0) 1 w1) 2 w2) 3 w3) 4 w4)]) rfl ?_
    refine zx_iload (pc := 59) hF d_PS_header_59 0 rfl ?_
    exact zx_iret (pc := 61) hF hr hlk rfl (by simp only [f_hk, f_kp, if_pos h14]) d_PS_header_61
set_option maxRecDepth 20000 in
theorem M_PS_carrier (l : Launch) (D : va_G) (K : Nat → ClassId) (M : List (ClassId × FieldType)) (ps0 : Nat) (dg0 : Nat) (ba0 : Nat) (sa0 : Nat) (m : Nat) (kp0 : Nat) (wi0 : Nat) (hkp : Int32) (lca : Int32) (lre : Int32) (lta : Int32) (tim : Int32) (sz : Nat) : zM l y_PS_carrier (zT y_PS_carrier b_PS_carrier 1 (some .int)) (zR 0 0) 0 0 D K M [.ref ps0] [cO ps0 0 [.ref dg0, .ref ba0, .ref sa0, .int (nI m), .ref kp0, .ref wi0, .int hkp, .int lca, .int lre, .int lta, .int tim]] sz (zQi D K M lca [cO ps0 0 [.ref dg0, .ref ba0, .ref sa0, .int (nI m), .ref kp0, .ref wi0, .int hkp, .int lca, .int lre, .int lta, .int tim]]) := by
  refine zx_head (by decide) (Nat.le_of_ble_eq_true rfl) ?_
  intro _ _ _ _ _ _ _ _ _ hF hr hlk hnm
  refine zx_aload_n (pc := 0) hF d_PS_carrier_0 rfl 0 rfl ?_
  refine zg_PS_20 (pc := 1) hF 0 rfl rfl d_PS_carrier_1 ?_
  exact zx_iret (pc := 4) hF hr hlk (by first | rfl | (simp only []; done) | (simp only [↓reduceIte]; done) | simp []) (by first | rfl | (simp only []; done) | (simp only [↓reduceIte]; done) | simp []) d_PS_carrier_4
set_option maxRecDepth 20000 in
theorem M_PS_reply (l : Launch) (D : va_G) (K : Nat → ClassId) (M : List (ClassId × FieldType)) (ps0 : Nat) (dg0 : Nat) (ba0 : Nat) (sa0 : Nat) (m : Nat) (kp0 : Nat) (wi0 : Nat) (hkp : Int32) (lca : Int32) (lre : Int32) (lta : Int32) (tim : Int32) (sz : Nat) : zM l y_PS_reply (zT y_PS_reply b_PS_reply 1 (some .int)) (zR 0 0) 0 0 D K M [.ref ps0] [cO ps0 0 [.ref dg0, .ref ba0, .ref sa0, .int (nI m), .ref kp0, .ref wi0, .int hkp, .int lca, .int lre, .int lta, .int tim]] sz (zQi D K M lre [cO ps0 0 [.ref dg0, .ref ba0, .ref sa0, .int (nI m), .ref kp0, .ref wi0, .int hkp, .int lca, .int lre, .int lta, .int tim]]) := by
  refine zx_head (by decide) (Nat.le_of_ble_eq_true rfl) ?_
  intro _ _ _ _ _ _ _ _ _ hF hr hlk hnm
  refine zx_aload_n (pc := 0) hF d_PS_reply_0 rfl 0 rfl ?_
  refine zg_PS_24 (pc := 1) hF 0 rfl rfl d_PS_reply_1 ?_
  exact zx_iret (pc := 4) hF hr hlk (by first | rfl | (simp only []; done) | (simp only [↓reduceIte]; done) | simp []) (by first | rfl | (simp only []; done) | (simp only [↓reduceIte]; done) | simp []) d_PS_reply_4
set_option maxRecDepth 20000 in
theorem M_PS_taken (l : Launch) (D : va_G) (K : Nat → ClassId) (M : List (ClassId × FieldType)) (ps0 : Nat) (dg0 : Nat) (ba0 : Nat) (sa0 : Nat) (m : Nat) (kp0 : Nat) (wi0 : Nat) (hkp : Int32) (lca : Int32) (lre : Int32) (lta : Int32) (tim : Int32) (sz : Nat) : zM l y_PS_taken (zT y_PS_taken b_PS_taken 1 (some .int)) (zR 0 0) 0 0 D K M [.ref ps0] [cO ps0 0 [.ref dg0, .ref ba0, .ref sa0, .int (nI m), .ref kp0, .ref wi0, .int hkp, .int lca, .int lre, .int lta, .int tim]] sz (zQi D K M lta [cO ps0 0 [.ref dg0, .ref ba0, .ref sa0, .int (nI m), .ref kp0, .ref wi0, .int hkp, .int lca, .int lre, .int lta, .int tim]]) := by
  refine zx_head (by decide) (Nat.le_of_ble_eq_true rfl) ?_
  intro _ _ _ _ _ _ _ _ _ hF hr hlk hnm
  refine zx_aload_n (pc := 0) hF d_PS_taken_0 rfl 0 rfl ?_
  refine zg_PS_27 (pc := 1) hF 0 rfl rfl d_PS_taken_1 ?_
  exact zx_iret (pc := 4) hF hr hlk (by first | rfl | (simp only []; done) | (simp only [↓reduceIte]; done) | simp []) (by first | rfl | (simp only []; done) | (simp only [↓reduceIte]; done) | simp []) d_PS_taken_4
set_option maxRecDepth 20000 in
theorem M_PS_wire (l : Launch) (D : va_G) (K : Nat → ClassId) (M : List (ClassId × FieldType)) (ps0 : Nat) (dg0 : Nat) (ba0 : Nat) (sa0 : Nat) (m : Nat) (kp0 : Nat) (wi0 : Nat) (hkp : Int32) (lca : Int32) (lre : Int32) (lta : Int32) (tim : Int32) (wi1 : Nat) (w : Nat → Int32) (t : Int32) (sz : Nat) : zM l y_PS_wire (zT y_PS_wire b_PS_wire 2 (some .int)) (zR 1 21) 0 0 D K M [.ref ps0, .int t] [cO ps0 0 [.ref dg0, .ref ba0, .ref sa0, .int (nI m), .ref kp0, .ref wi0, .int hkp, .int lca, .int lre, .int lta, .int tim], cO wi0 10 [.ref wi1], cI K wi1 16 w] sz (zQi D K M (if t < 0 then 0 else if 16 ≤ t then 0 else w t.toNatClampNeg) [cO ps0 0 [.ref dg0, .ref ba0, .ref sa0, .int (nI m), .ref kp0, .ref wi0, .int hkp, .int lca, .int lre, .int lta, .int tim], cO wi0 10 [.ref wi1], cI K wi1 16 w]) := by
  refine zx_head (by decide) (Nat.le_of_ble_eq_true rfl) ?_
  intro _ _ _ _ _ _ _ _ _ hF hr hlk hnm
  refine zx_aload_n (pc := 0) hF d_PS_wire_0 rfl 0 rfl ?_
  refine zg_PS_16 (pc := 1) hF 0 rfl rfl d_PS_wire_1 ?_
  refine zx_iload_n (pc := 4) hF d_PS_wire_4 rfl 1 rfl ?_
  refine zx_Vi (pc := 5) hF (As := [.int t]) (rest := []) (fun sz => M_Wir_word l D K M wi0 wi1 w t  sz) [1, 2] rfl (by decide) (as := [wi0, wi1]) rfl rfl (ws' := [cO ps0 0 [.ref dg0, .ref ba0, .ref sa0, .int (nI m), .ref kp0, .ref wi0, .int hkp, .int lca, .int lre, .int lta, .int tim], cO wi0 10 [.ref wi1], cI K wi1 16 w]) rfl 0 10 rfl rfl rfl (cw_PS_124 hF.2.2.2.2.1 rfl rfl ⟨by decide, by decide⟩) rfl rfl (Nat.le_of_ble_eq_true rfl) d_PS_wire_5 ⟨Nat.zero_le _, Nat.zero_le _⟩ ?_
  exact zx_iret (pc := 8) hF hr hlk (by first | rfl | (simp only []; done) | (simp only [↓reduceIte]; done) | simp []) (by first | rfl | (simp only []; done) | (simp only [↓reduceIte]; done) | simp []) d_PS_wire_8
