set_option maxRecDepth 20000 in
theorem M_Mod_within (l : Launch) (D : va_G) (K : Nat → ClassId) (M : List (ClassId × FieldType)) (v : Int32) (lo : Int32) (hi : Int32) (sz : Nat) : zM l y_Mod_within (zT y_Mod_within b_Mod_within 3 (some .int)) (zR 0 0) 0 0 D K M [.int v, .int lo, .int hi] [] sz (zQi D K M (f_within v lo hi) []) := by
  refine zx_head (by decide) (Nat.le_of_ble_eq_true rfl) ?_
  intro _ _ _ _ _ _ _ _ _ hF hr hlk hnm
  refine zx_iload_n (pc := 0) hF d_Mod_within_0 rfl 0 rfl ?_
  refine zx_iload_n (pc := 1) hF d_Mod_within_1 rfl 1 rfl ?_
  refine zx_icmp_ge (pc := 2) hF d_Mod_within_2 (tgt := 9) rfl (fun h2 => ?_) (fun h2 => ?_)
  · refine zx_iload_n (pc := 9) hF d_Mod_within_9 rfl 0 rfl ?_
    refine zx_iload_n (pc := 10) hF d_Mod_within_10 rfl 2 rfl ?_
    refine zx_icmp_le (pc := 11) hF d_Mod_within_11 (tgt := 18) rfl (fun h11 => ?_) (fun h11 => ?_)
    · refine zx_iload_n (pc := 18) hF d_Mod_within_18 rfl 0 rfl ?_
      exact zx_iret (pc := 19) hF hr hlk (by first | with_reducible rfl | (simp only [f_within, if_pos h2, if_pos h11]; done) | (simp only [f_within, h2, h11, ↓reduceIte]; done) | simp [f_within, h2, h11]) (by first | with_reducible rfl | (simp only [f_within, if_pos h2, if_pos h11]; done) | (simp only [f_within, h2, h11, ↓reduceIte]; done) | simp [f_within, h2, h11]) d_Mod_within_19
    · refine zx_iload_n (pc := 14) hF d_Mod_within_14 rfl 2 rfl ?_
      refine zx_goto (pc := 15) hF d_Mod_within_15 (tgt := 19) rfl ?_
      exact zx_iret (pc := 19) hF hr hlk (by first | with_reducible rfl | (simp only [f_within, if_pos h2, if_neg h11]; done) | (simp only [f_within, h2, h11, ↓reduceIte]; done) | simp [f_within, h2, h11]) (by first | with_reducible rfl | (simp only [f_within, if_pos h2, if_neg h11]; done) | (simp only [f_within, h2, h11, ↓reduceIte]; done) | simp [f_within, h2, h11]) d_Mod_within_19
  · refine zx_iload_n (pc := 5) hF d_Mod_within_5 rfl 1 rfl ?_
    refine zx_goto (pc := 6) hF d_Mod_within_6 (tgt := 19) rfl ?_
    exact zx_iret (pc := 19) hF hr hlk (by first | with_reducible rfl | (simp only [f_within, if_neg h2]; done) | (simp only [f_within, h2, ↓reduceIte]; done) | simp [f_within, h2]) (by first | with_reducible rfl | (simp only [f_within, if_neg h2]; done) | (simp only [f_within, h2, ↓reduceIte]; done) | simp [f_within, h2]) d_Mod_within_19
set_option maxRecDepth 20000 in
theorem M_Mod_prime (l : Launch) (D : va_G) (K : Nat → ClassId) (M : List (ClassId × FieldType)) (N : Nat) (hN : N < 2 ^ 30) (sz : Nat) : zM l y_Mod_prime (zT y_Mod_prime b_Mod_prime 2 (some .boolean)) (zR 0 0) 0 0 D K M [.int (nI N)] [] sz (zQi D K M (f_prm N (N - 2) 2) []) := by
  refine zx_head (by decide) (Nat.le_of_ble_eq_true rfl) ?_
  intro _ _ _ _ _ _ _ _ _ hF hr hlk hnm
  refine zx_iconst (pc := 0) hF d_Mod_prime_0 k_i2 ?_
  refine zx_istore_n (pc := 1) hF (lv' := [(1, .int 2), (0, .int (nI N))]) d_Mod_prime_1 rfl (by decide) rfl ?_
  refine zx_lv [1, 0] (lv' := [(0, .int (nI N)), (1, .int 2)]) rfl ?_
  refine zx_loop (pc := 2) (σ := Nat) (fun k zv => (k = N - zv) ∧ (2 ≤ zv ∧ zv ≤ N + 2) ∧ (f_prm N k zv = f_prm N (N - 2) 2)) (fun zv => []) (fun zv => [(0, .int (nI N)), (1, .int (nI zv))]) (N - 2) 2 ⟨rfl, by first | omega | (dsimp only; omega) | dsimp only, rfl⟩ rfl rfl ?_
  intro k d hI ih
  obtain ⟨hk, hd, hX⟩ := hI
  replace hk : k = N - d := hk
  replace hd : 2 ≤ d ∧ d ≤ N + 2 := hd
  replace hX : f_prm N k d = f_prm N (N - 2) 2 := hX
  refine zx_eq (ws' := []) (lv' := [(0, .int (nI N)), (1, .int (nI d))]) rfl rfl rfl ?_
  refine zx_iload_n (pc := 2) hF d_Mod_prime_2 rfl 1 rfl ?_
  refine zx_iload_n (pc := 3) hF d_Mod_prime_3 rfl 0 rfl ?_
  refine zx_icmp_ge (pc := 4) hF d_Mod_prime_4 (tgt := 21) rfl (fun h4 => ?_) (fun h4 => ?_)
  · replace h4 : N ≤ d := (nI_leI (a := N) (b := d) (by omega) (by omega)).mp h4
    refine zx_iconst (pc := 21) hF d_Mod_prime_21 k_i1 ?_
    exact zx_zret (pc := 22) hF hr hlk rfl (by obtain rfl : k = 0 := (by omega); exact hX) rfl d_Mod_prime_22
  · replace h4 : ¬ N ≤ d := fun z => h4 ((nI_leI (a := N) (b := d) (by omega) (by omega)).mpr z)
    refine zx_iload_n (pc := 7) hF d_Mod_prime_7 rfl 0 rfl ?_
    refine zx_iload_n (pc := 8) hF d_Mod_prime_8 rfl 1 rfl ?_
    refine zx_irem (pc := 9) hF d_Mod_prime_9 (nI_ne0 (by omega) (by omega)) ?_
    refine zx_topi (nI (N % d)) (pk_rem (a := N) (d := d) (by omega) (by omega) (by omega)) ?_
    refine zx_if_ne (pc := 10) hF d_Mod_prime_10 (tgt := 15) rfl (fun h10 => ?_) (fun h10 => ?_)
    · replace h10 : ¬ (N % d) = 0 := fun z => h10 ((nI_eq (a := N % d) (b := 0) (Nat.lt_of_le_of_lt (Nat.mod_le _ _) (by omega)) (by omega)).mpr z)
      refine zx_iinc (pc := 15) hF (v := nI (d + 1)) (lv' := [(1, .int (nI (d + 1))), (0, .int (nI N))]) d_Mod_prime_15 1 rfl (zinc d) (by decide) rfl ?_
      refine zx_goto (pc := 18) hF d_Mod_prime_18 (tgt := 2) rfl ?_
      refine zx_lv [1, 0] (lv' := [(0, .int (nI N)), (1, .int (nI (d + 1)))]) rfl ?_
      exact ih (k - 1) (d + 1) (by omega) ⟨by first | omega | (dsimp only; omega) | dsimp only, by first | omega | (dsimp only; omega) | dsimp only, by obtain ⟨k', rfl⟩ : ∃ k', k = k' + 1 := ⟨k - 1, by omega⟩; simpa [f_prm, h10] using hX⟩
    · replace h10 : (N % d) = 0 := (nI_eq (a := N % d) (b := 0) (Nat.lt_of_le_of_lt (Nat.mod_le _ _) (by omega)) (by omega)).mp h10
      refine zx_iconst (pc := 13) hF d_Mod_prime_13 k_i0 ?_
      exact zx_zret (pc := 14) hF hr hlk rfl (by obtain ⟨k', rfl⟩ : ∃ k', k = k' + 1 := ⟨k - 1, by omega⟩; simpa [f_prm, h10] using hX) rfl d_Mod_prime_14
set_option maxRecDepth 20000 in
theorem M_Mod_upper (l : Launch) (D : va_G) (K : Nat → ClassId) (M : List (ClassId × FieldType)) (x : Int64) (sz : Nat) : zM l y_Mod_upper (zT y_Mod_upper b_Mod_upper 8 (some .long)) (zR 0 0) 0 0 D K M [.long x] [] sz (zQl D K M (f_upper x) []) := by
  refine zx_head (by decide) (Nat.le_of_ble_eq_true rfl) ?_
  intro _ _ _ _ _ _ _ _ _ hF hr hlk hnm
  refine zx_lload_n (pc := 0) hF d_Mod_upper_0 rfl 0 rfl ?_
  refine zx_ldc2 (pc := 1) hF wk_Mod_134 d_Mod_upper_1 ?_
  refine zx_ldiv (pc := 4) hF d_Mod_upper_4 (by decide) ?_
  refine zx_ldc2 (pc := 5) hF wk_Mod_134 d_Mod_upper_5 ?_
  refine zx_ldiv (pc := 8) hF d_Mod_upper_8 (by decide) ?_
  refine zx_lstore_n (pc := 9) hF (lv' := [(2, .long ((x / 65536) / 65536)), (0, .long x)]) d_Mod_upper_9 rfl (by decide) rfl ?_
  refine zx_lload_n (pc := 10) hF d_Mod_upper_10 rfl 1 rfl ?_
  refine zx_lload_n (pc := 11) hF d_Mod_upper_11 rfl 0 rfl ?_
  refine zx_ldc2 (pc := 12) hF wk_Mod_134 d_Mod_upper_12 ?_
  refine zx_lmul (pc := 15) hF d_Mod_upper_15 ?_
  refine zx_ldc2 (pc := 16) hF wk_Mod_134 d_Mod_upper_16 ?_
  refine zx_lmul (pc := 19) hF d_Mod_upper_19 ?_
  refine zx_lsub (pc := 20) hF d_Mod_upper_20 ?_
  refine zx_lstore (pc := 21) hF (lv' := [(4, .long (x - ((((x / 65536) / 65536) * 65536) * 65536))), (2, .long ((x / 65536) / 65536)), (0, .long x)]) d_Mod_upper_21 (by decide) rfl ?_
  refine zx_lload (pc := 23) hF d_Mod_upper_23 0 rfl ?_
  refine zx_lconst (pc := 25) hF d_Mod_upper_25 k_l0 ?_
  refine zx_lcmp (pc := 26) hF d_Mod_upper_26 ?_
  refine zx_if_ge (pc := 27) hF d_Mod_upper_27 (tgt := 36) rfl (fun h27 => ?_) (fun h27 => ?_)
  · refine zx_lload_n (pc := 36) hF d_Mod_upper_36 rfl 1 rfl ?_
    refine zx_lstore (pc := 37) hF (lv' := [(6, .long ((x / 65536) / 65536)), (4, .long (x - ((((x / 65536) / 65536) * 65536) * 65536))), (2, .long ((x / 65536) / 65536)), (0, .long x)]) d_Mod_upper_37 (by decide) rfl ?_
    refine zx_lload (pc := 39) hF d_Mod_upper_39 0 rfl ?_
    refine zx_lconst (pc := 41) hF d_Mod_upper_41 k_l0 ?_
    refine zx_lcmp (pc := 42) hF d_Mod_upper_42 ?_
    refine zx_if_ge (pc := 43) hF d_Mod_upper_43 (tgt := 55) rfl (fun h43 => ?_) (fun h43 => ?_)
    · refine zx_lload (pc := 55) hF d_Mod_upper_55 0 rfl ?_
      exact zx_lret (pc := 57) hF hr hlk (by first | with_reducible rfl | (simp only [f_upper, f_half, f_rst, if_pos h27, if_pos h43]; done) | (simp only [f_upper, f_half, f_rst, h27, h43, ↓reduceIte]; done) | simp [f_upper, f_half, f_rst, h27, h43]) (by first | with_reducible rfl | (simp only [f_upper, f_half, f_rst, if_pos h27, if_pos h43]; done) | (simp only [f_upper, f_half, f_rst, h27, h43, ↓reduceIte]; done) | simp [f_upper, f_half, f_rst, h27, h43]) d_Mod_upper_57
    · refine zx_lload (pc := 46) hF d_Mod_upper_46 0 rfl ?_
      refine zx_ldc2 (pc := 48) hF wk_Mod_136 d_Mod_upper_48 ?_
      refine zx_ladd (pc := 51) hF d_Mod_upper_51 ?_
      refine zx_goto (pc := 52) hF d_Mod_upper_52 (tgt := 57) rfl ?_
      exact zx_lret (pc := 57) hF hr hlk (by first | with_reducible rfl | (simp only [f_upper, f_half, f_rst, if_pos h27, if_neg h43]; done) | (simp only [f_upper, f_half, f_rst, h27, h43, ↓reduceIte]; done) | simp [f_upper, f_half, f_rst, h27, h43]) (by first | with_reducible rfl | (simp only [f_upper, f_half, f_rst, if_pos h27, if_neg h43]; done) | (simp only [f_upper, f_half, f_rst, h27, h43, ↓reduceIte]; done) | simp [f_upper, f_half, f_rst, h27, h43]) d_Mod_upper_57
  · refine zx_lload_n (pc := 30) hF d_Mod_upper_30 rfl 1 rfl ?_
    refine zx_lconst (pc := 31) hF d_Mod_upper_31 k_l1 ?_
    refine zx_lsub (pc := 32) hF d_Mod_upper_32 ?_
    refine zx_goto (pc := 33) hF d_Mod_upper_33 (tgt := 37) rfl ?_
    refine zx_lstore (pc := 37) hF (lv' := [(6, .long (((x / 65536) / 65536) - 1)), (4, .long (x - ((((x / 65536) / 65536) * 65536) * 65536))), (2, .long ((x / 65536) / 65536)), (0, .long x)]) d_Mod_upper_37 (by decide) rfl ?_
    refine zx_lload (pc := 39) hF d_Mod_upper_39 0 rfl ?_
    refine zx_lconst (pc := 41) hF d_Mod_upper_41 k_l0 ?_
    refine zx_lcmp (pc := 42) hF d_Mod_upper_42 ?_
    refine zx_if_ge (pc := 43) hF d_Mod_upper_43 (tgt := 55) rfl (fun h43 => ?_) (fun h43 => ?_)
    · refine zx_lload (pc := 55) hF d_Mod_upper_55 0 rfl ?_
      exact zx_lret (pc := 57) hF hr hlk (by first | with_reducible rfl | (simp only [f_upper, f_half, f_rst, if_neg h27, if_pos h43]; done) | (simp only [f_upper, f_half, f_rst, h27, h43, ↓reduceIte]; done) | simp [f_upper, f_half, f_rst, h27, h43]) (by first | with_reducible rfl | (simp only [f_upper, f_half, f_rst, if_neg h27, if_pos h43]; done) | (simp only [f_upper, f_half, f_rst, h27, h43, ↓reduceIte]; done) | simp [f_upper, f_half, f_rst, h27, h43]) d_Mod_upper_57
    · refine zx_lload (pc := 46) hF d_Mod_upper_46 0 rfl ?_
      refine zx_ldc2 (pc := 48) hF wk_Mod_136 d_Mod_upper_48 ?_
      refine zx_ladd (pc := 51) hF d_Mod_upper_51 ?_
      refine zx_goto (pc := 52) hF d_Mod_upper_52 (tgt := 57) rfl ?_
      exact zx_lret (pc := 57) hF hr hlk (by first | with_reducible rfl | (simp only [f_upper, f_half, f_rst, if_neg h27, if_neg h43]; done) | (simp only [f_upper, f_half, f_rst, h27, h43, ↓reduceIte]; done) | simp [f_upper, f_half, f_rst, h27, h43]) (by first | with_reducible rfl | (simp only [f_upper, f_half, f_rst, if_neg h27, if_neg h43]; done) | (simp only [f_upper, f_half, f_rst, h27, h43, ↓reduceIte]; done) | simp [f_upper, f_half, f_rst, h27, h43]) d_Mod_upper_57
set_option maxRecDepth 20000 in
theorem M_Mod_lower (l : Launch) (D : va_G) (K : Nat → ClassId) (M : List (ClassId × FieldType)) (x : Int64) (sz : Nat) : zM l y_Mod_lower (zT y_Mod_lower b_Mod_lower 4 (some .long)) (zR 0 0) 0 0 D K M [.long x] [] sz (zQl D K M (f_lower x) []) := by
  refine zx_head (by decide) (Nat.le_of_ble_eq_true rfl) ?_
  intro _ _ _ _ _ _ _ _ _ hF hr hlk hnm
  refine zx_lload_n (pc := 0) hF d_Mod_lower_0 rfl 0 rfl ?_
  refine zx_ldc2 (pc := 1) hF wk_Mod_136 d_Mod_lower_1 ?_
  refine zx_lrem (pc := 4) hF d_Mod_lower_4 (by decide) ?_
  refine zx_lstore_n (pc := 5) hF (lv' := [(2, .long (x - x / 4294967296 * 4294967296)), (0, .long x)]) d_Mod_lower_5 rfl (by decide) rfl ?_
  refine zx_lload_n (pc := 6) hF d_Mod_lower_6 rfl 0 rfl ?_
  refine zx_lconst (pc := 7) hF d_Mod_lower_7 k_l0 ?_
  refine zx_lcmp (pc := 8) hF d_Mod_lower_8 ?_
  refine zx_if_ge (pc := 9) hF d_Mod_lower_9 (tgt := 20) rfl (fun h9 => ?_) (fun h9 => ?_)
  · refine zx_lload_n (pc := 20) hF d_Mod_lower_20 rfl 0 rfl ?_
    exact zx_lret (pc := 21) hF hr hlk (by first | with_reducible rfl | (simp only [f_lower, f_lrem, if_pos h9]; done) | (simp only [f_lower, f_lrem, h9, ↓reduceIte]; done) | simp [f_lower, f_lrem, h9]) (by first | with_reducible rfl | (simp only [f_lower, f_lrem, if_pos h9]; done) | (simp only [f_lower, f_lrem, h9, ↓reduceIte]; done) | simp [f_lower, f_lrem, h9]) d_Mod_lower_21
  · refine zx_lload_n (pc := 12) hF d_Mod_lower_12 rfl 0 rfl ?_
    refine zx_ldc2 (pc := 13) hF wk_Mod_136 d_Mod_lower_13 ?_
    refine zx_ladd (pc := 16) hF d_Mod_lower_16 ?_
    refine zx_goto (pc := 17) hF d_Mod_lower_17 (tgt := 21) rfl ?_
    exact zx_lret (pc := 21) hF hr hlk (by first | with_reducible rfl | (simp only [f_lower, f_lrem, if_neg h9]; done) | (simp only [f_lower, f_lrem, h9, ↓reduceIte]; done) | simp [f_lower, f_lrem, h9]) (by first | with_reducible rfl | (simp only [f_lower, f_lrem, if_neg h9]; done) | (simp only [f_lower, f_lrem, h9, ↓reduceIte]; done) | simp [f_lower, f_lrem, h9]) d_Mod_lower_21
set_option maxRecDepth 20000 in
theorem M_Mod_halves (l : Launch) (D : va_G) (K : Nat → ClassId) (M : List (ClassId × FieldType)) (w : Int32) (sz : Nat) : zM l y_Mod_halves (zT y_Mod_halves b_Mod_halves 3 (some .int)) (zR 0 0) 0 0 D K M [.int w] [] sz (zQi D K M (g_halves w) []) := by
  refine zx_head (by decide) (Nat.le_of_ble_eq_true rfl) ?_
  intro _ _ _ _ _ _ _ _ _ hF hr hlk hnm
  refine zx_iload_n (pc := 0) hF d_Mod_halves_0 rfl 0 rfl ?_
  refine zx_ldc (pc := 1) hF wk_Mod_138 d_Mod_halves_1 ?_
  refine zx_iand (pc := 3) hF d_Mod_halves_3 ?_
  refine zx_istore_n (pc := 4) hF (lv' := [(1, .int (w &&& 65535)), (0, .int w)]) d_Mod_halves_4 rfl (by decide) rfl ?_
  refine zx_iload_n (pc := 5) hF d_Mod_halves_5 rfl 1 rfl ?_
  refine zx_bipush (pc := 6) hF d_Mod_halves_6 k_b16 ?_
  refine zx_ishr (pc := 8) hF d_Mod_halves_8 ?_
  refine zx_ldc (pc := 9) hF wk_Mod_138 d_Mod_halves_9 ?_
  refine zx_iand (pc := 11) hF d_Mod_halves_11 ?_
  refine zx_istore_n (pc := 12) hF (lv' := [(2, .int ((w >>> (16 &&& 31)) &&& 65535)), (1, .int (w &&& 65535)), (0, .int w)]) d_Mod_halves_12 rfl (by decide) rfl ?_
  refine zx_iload_n (pc := 13) hF d_Mod_halves_13 rfl 1 rfl ?_
  refine zx_iload_n (pc := 14) hF d_Mod_halves_14 rfl 0 rfl ?_
  refine zx_iadd (pc := 15) hF d_Mod_halves_15 ?_
  exact zx_iret (pc := 16) hF hr hlk (by first | rfl | (simp only []; done) | (simp only [↓reduceIte]; done) | simp []) (by first | rfl | (simp only []; done) | (simp only [↓reduceIte]; done) | simp []) d_Mod_halves_16
set_option maxRecDepth 20000 in
theorem M_Mod_fold (l : Launch) (D : va_G) (K : Nat → ClassId) (M : List (ClassId × FieldType)) (t0 : Int32) (sz : Nat) : zM l y_Mod_fold (zT y_Mod_fold b_Mod_fold 3 (some .int)) (zR 0 0) 0 0 D K M [.int t0] [] sz (zQi D K M (g_fold 20 t0) []) := by
  refine zx_head (by decide) (Nat.le_of_ble_eq_true rfl) ?_
  intro _ _ _ _ _ _ _ _ _ hF hr hlk hnm
  refine zx_iload_n (pc := 0) hF d_Mod_fold_0 rfl 0 rfl ?_
  refine zx_istore_n (pc := 1) hF (lv' := [(1, .int t0), (0, .int t0)]) d_Mod_fold_1 rfl (by decide) rfl ?_
  refine zx_iconst (pc := 2) hF d_Mod_fold_2 k_i0 ?_
  refine zx_istore_n (pc := 3) hF (lv' := [(2, .int 0), (1, .int t0), (0, .int t0)]) d_Mod_fold_3 rfl (by decide) rfl ?_
  refine zx_lv [2, 1, 0] (lv' := [(0, .int t0), (1, .int t0), (2, .int 0)]) rfl ?_
  refine zx_loop (pc := 4) (σ := Nat × Int32) (fun k zv => (zv.1 + k = 20) ∧ (g_fold k zv.2 = g_fold 20 t0)) (fun zv => []) (fun zv => [(0, .int t0), (1, .int zv.2), (2, .int (nI zv.1))]) 20 (0, t0) ⟨rfl, rfl⟩ rfl rfl ?_
  intro k zv hI ih
  obtain ⟨j, t⟩ := zv
  obtain ⟨hk, hX⟩ := hI
  replace hk : j + k = 20 := hk
  replace hX : g_fold k t = g_fold 20 t0 := hX
  refine zx_eq (ws' := []) (lv' := [(0, .int t0), (1, .int t), (2, .int (nI j))]) rfl rfl rfl ?_
  refine zx_iload_n (pc := 4) hF d_Mod_fold_4 rfl 2 rfl ?_
  refine zx_bipush (pc := 5) hF d_Mod_fold_5 k_b20 ?_
  refine zx_icmp_ge (pc := 7) hF d_Mod_fold_7 (tgt := 32) rfl (fun h7 => ?_) (fun h7 => ?_)
  · replace h7 : 20 ≤ j := (nI_leI (a := 20) (b := j) (by omega) (by omega)).mp h7
    refine zx_iload_n (pc := 32) hF d_Mod_fold_32 rfl 1 rfl ?_
    exact zx_iret (pc := 33) hF hr hlk (by obtain rfl : k = 0 := (by omega); exact hX) rfl d_Mod_fold_33
  · replace h7 : ¬ 20 ≤ j := fun z => h7 ((nI_leI (a := 20) (b := j) (by omega) (by omega)).mpr z)
    refine zx_iload_n (pc := 10) hF d_Mod_fold_10 rfl 1 rfl ?_
    refine zx_ldc (pc := 11) hF wk_Mod_138 d_Mod_fold_11 ?_
    refine zx_icmp_le (pc := 13) hF d_Mod_fold_13 (tgt := 32) rfl (fun h13 => ?_) (fun h13 => ?_)
    · refine zx_iload_n (pc := 32) hF d_Mod_fold_32 rfl 1 rfl ?_
      exact zx_iret (pc := 33) hF hr hlk (by obtain ⟨k', rfl⟩ : ∃ k', k = k' + 1 := ⟨k - 1, by omega⟩; simp only [g_fold, h13, ↓reduceIte] at hX; exact hX) rfl d_Mod_fold_33
    · refine zx_iload_n (pc := 16) hF d_Mod_fold_16 rfl 1 rfl ?_
      refine zx_ldc (pc := 17) hF wk_Mod_139 d_Mod_fold_17 ?_
      refine zx_irem (pc := 19) hF d_Mod_fold_19 (by decide) ?_
      refine zx_iload_n (pc := 20) hF d_Mod_fold_20 rfl 1 rfl ?_
      refine zx_ldc (pc := 21) hF wk_Mod_139 d_Mod_fold_21 ?_
      refine zx_idiv (pc := 23) hF d_Mod_fold_23 (by decide) ?_
      refine zx_iadd (pc := 24) hF d_Mod_fold_24 ?_
      refine zx_istore_n (pc := 25) hF (lv' := [(1, .int ((t - t / 65536 * 65536) + (t / 65536))), (0, .int t0), (2, .int (nI j))]) d_Mod_fold_25 rfl (by decide) rfl ?_
      refine zx_iinc (pc := 26) hF (v := nI (j + 1)) (lv' := [(2, .int (nI (j + 1))), (1, .int ((t - t / 65536 * 65536) + (t / 65536))), (0, .int t0)]) d_Mod_fold_26 2 rfl (zinc j) (by decide) rfl ?_
      refine zx_goto (pc := 29) hF d_Mod_fold_29 (tgt := 4) rfl ?_
      refine zx_lv [2, 1, 0] (lv' := [(0, .int t0), (1, .int ((t - t / 65536 * 65536) + (t / 65536))), (2, .int (nI (j + 1)))]) rfl ?_
      exact ih (k - 1) (j + 1, ((t - t / 65536 * 65536) + (t / 65536))) (by omega) ⟨by first | omega | (dsimp only; omega) | dsimp only, by obtain ⟨k', rfl⟩ : ∃ k', k = k' + 1 := ⟨k - 1, by omega⟩; simp only [g_fold, h13, ↓reduceIte] at hX; exact hX⟩
set_option maxRecDepth 20000 in
theorem M_Mod_checksum (l : Launch) (D : va_G) (K : Nat → ClassId) (M : List (ClassId × FieldType)) (m0 : Nat) (bN : Nat) (sN0 : Nat) (pN : Nat) (k0 : Int64) (k1 : Int64) (now : Int32) (x_wd : Nat) (x_beg : Nat) (x_std : Nat) (x_dea : Nat) (x_frm : Nat) (x_alv : Nat) (x_stm : Nat) (x_mov : Nat) (x_dwn : Nat) (x_ctd : Nat) (x_cutm : Nat) (x_pha : Nat) (x_usd : Nat) (x_gol : Nat) (x_esr : Nat) (x_epo : Nat) (x_offm : Nat) (x_ast : Nat) (x_opn : Nat) (x_ssr : Nat) (x_spo : Nat) (x_awa : Nat) (x_dat : Nat) (kpt : Int32) (x_hd : Nat) (by0 : Int32) (to0 : Int32) (rep : Int32) (had : Int32) (ost : Int32) (bst : Int32) (x_inr : Nat) (w0 : Int32) (w1 : Int32) (w2 : Int32) (w3 : Int32) (w4 : Int32) (sz : Nat) : zM l y_Mod_checksum (zT y_Mod_checksum b_Mod_checksum 7 (some .int)) (zR 1 22) 0 0 D K M [.ref m0, .int w0, .int w1, .int w2, .int w3, .int w4] [cO m0 11 [.int (nI bN), .int (nI sN0), .int (nI pN), .long k0, .long k1, .int now, .ref x_wd, .ref x_beg, .ref x_std, .ref x_dea, .ref x_frm, .ref x_alv, .ref x_stm, .ref x_mov, .ref x_dwn, .ref x_ctd, .ref x_cutm, .ref x_pha, .ref x_usd, .ref x_gol, .ref x_esr, .ref x_epo, .ref x_offm, .ref x_ast, .ref x_opn, .ref x_ssr, .ref x_spo, .ref x_awa, .ref x_dat, .int kpt, .ref x_hd, .int by0, .int to0, .int rep, .int had, .int ost, .int bst, .ref x_inr]] sz (zQi D K M (g_cks w0 w1 w2 w3 w4) [cO m0 11 [.int (nI bN), .int (nI sN0), .int (nI pN), .long k0, .long k1, .int now, .ref x_wd, .ref x_beg, .ref x_std, .ref x_dea, .ref x_frm, .ref x_alv, .ref x_stm, .ref x_mov, .ref x_dwn, .ref x_ctd, .ref x_cutm, .ref x_pha, .ref x_usd, .ref x_gol, .ref x_esr, .ref x_epo, .ref x_offm, .ref x_ast, .ref x_opn, .ref x_ssr, .ref x_spo, .ref x_awa, .ref x_dat, .int kpt, .ref x_hd, .int by0, .int to0, .int rep, .int had, .int ost, .int bst, .ref x_inr]]) := by
  refine zx_head (by decide) (Nat.le_of_ble_eq_true rfl) ?_
  intro _ _ _ _ _ _ _ _ _ hF hr hlk hnm
  refine zx_iload_n (pc := 0) hF d_Mod_checksum_0 rfl 1 rfl ?_
  refine zx_Si (pc := 1) hF (As := [.int w0]) (rest := []) (fun sz => M_Mod_halves l D K M w0  sz) [] rfl List.nodup_nil (as := []) rfl rfl (ws' := [cO m0 11 [.int (nI bN), .int (nI sN0), .int (nI pN), .long k0, .long k1, .int now, .ref x_wd, .ref x_beg, .ref x_std, .ref x_dea, .ref x_frm, .ref x_alv, .ref x_stm, .ref x_mov, .ref x_dwn, .ref x_ctd, .ref x_cutm, .ref x_pha, .ref x_usd, .ref x_gol, .ref x_esr, .ref x_epo, .ref x_offm, .ref x_ast, .ref x_opn, .ref x_ssr, .ref x_spo, .ref x_awa, .ref x_dat, .int kpt, .ref x_hd, .int by0, .int to0, .int rep, .int had, .int ost, .int bst, .ref x_inr]]) rfl (cw_Mod_140 hF.2.2.2.2.1 rfl rfl ⟨by decide, by decide⟩) rfl rfl (Nat.le_of_ble_eq_true rfl) d_Mod_checksum_1 ⟨Nat.zero_le _, Nat.zero_le _⟩ ?_
  refine zx_iload_n (pc := 4) hF d_Mod_checksum_4 rfl 2 rfl ?_
  refine zx_Si (pc := 5) hF (As := [.int w1]) (rest := [.int (g_halves w0)]) (fun sz => M_Mod_halves l D K M w1  sz) [] rfl List.nodup_nil (as := []) rfl rfl (ws' := [cO m0 11 [.int (nI bN), .int (nI sN0), .int (nI pN), .long k0, .long k1, .int now, .ref x_wd, .ref x_beg, .ref x_std, .ref x_dea, .ref x_frm, .ref x_alv, .ref x_stm, .ref x_mov, .ref x_dwn, .ref x_ctd, .ref x_cutm, .ref x_pha, .ref x_usd, .ref x_gol, .ref x_esr, .ref x_epo, .ref x_offm, .ref x_ast, .ref x_opn, .ref x_ssr, .ref x_spo, .ref x_awa, .ref x_dat, .int kpt, .ref x_hd, .int by0, .int to0, .int rep, .int had, .int ost, .int bst, .ref x_inr]]) rfl (cw_Mod_140 hF.2.2.2.2.1 rfl rfl ⟨by decide, by decide⟩) rfl rfl (Nat.le_of_ble_eq_true rfl) d_Mod_checksum_5 ⟨Nat.zero_le _, Nat.zero_le _⟩ ?_
  refine zx_iadd (pc := 8) hF d_Mod_checksum_8 ?_
  refine zx_iload_n (pc := 9) hF d_Mod_checksum_9 rfl 3 rfl ?_
  refine zx_bipush (pc := 10) hF d_Mod_checksum_10 k_b16 ?_
  refine zx_ishr (pc := 12) hF d_Mod_checksum_12 ?_
  refine zx_ldc (pc := 13) hF wk_Mod_138 d_Mod_checksum_13 ?_
  refine zx_iand (pc := 15) hF d_Mod_checksum_15 ?_
  refine zx_iadd (pc := 16) hF d_Mod_checksum_16 ?_
  refine zx_iload (pc := 17) hF d_Mod_checksum_17 4 rfl ?_
  refine zx_Si (pc := 19) hF (As := [.int w3]) (rest := [.int (((g_halves w0) + (g_halves w1)) + ((w2 >>> (16 &&& 31)) &&& 65535))]) (fun sz => M_Mod_halves l D K M w3  sz) [] rfl List.nodup_nil (as := []) rfl rfl (ws' := [cO m0 11 [.int (nI bN), .int (nI sN0), .int (nI pN), .long k0, .long k1, .int now, .ref x_wd, .ref x_beg, .ref x_std, .ref x_dea, .ref x_frm, .ref x_alv, .ref x_stm, .ref x_mov, .ref x_dwn, .ref x_ctd, .ref x_cutm, .ref x_pha, .ref x_usd, .ref x_gol, .ref x_esr, .ref x_epo, .ref x_offm, .ref x_ast, .ref x_opn, .ref x_ssr, .ref x_spo, .ref x_awa, .ref x_dat, .int kpt, .ref x_hd, .int by0, .int to0, .int rep, .int had, .int ost, .int bst, .ref x_inr]]) rfl (cw_Mod_140 hF.2.2.2.2.1 rfl rfl ⟨by decide, by decide⟩) rfl rfl (Nat.le_of_ble_eq_true rfl) d_Mod_checksum_19 ⟨Nat.zero_le _, Nat.zero_le _⟩ ?_
  refine zx_iadd (pc := 22) hF d_Mod_checksum_22 ?_
  refine zx_iload (pc := 23) hF d_Mod_checksum_23 5 rfl ?_
  refine zx_Si (pc := 25) hF (As := [.int w4]) (rest := [.int ((((g_halves w0) + (g_halves w1)) + ((w2 >>> (16 &&& 31)) &&& 65535)) + (g_halves w3))]) (fun sz => M_Mod_halves l D K M w4  sz) [] rfl List.nodup_nil (as := []) rfl rfl (ws' := [cO m0 11 [.int (nI bN), .int (nI sN0), .int (nI pN), .long k0, .long k1, .int now, .ref x_wd, .ref x_beg, .ref x_std, .ref x_dea, .ref x_frm, .ref x_alv, .ref x_stm, .ref x_mov, .ref x_dwn, .ref x_ctd, .ref x_cutm, .ref x_pha, .ref x_usd, .ref x_gol, .ref x_esr, .ref x_epo, .ref x_offm, .ref x_ast, .ref x_opn, .ref x_ssr, .ref x_spo, .ref x_awa, .ref x_dat, .int kpt, .ref x_hd, .int by0, .int to0, .int rep, .int had, .int ost, .int bst, .ref x_inr]]) rfl (cw_Mod_140 hF.2.2.2.2.1 rfl rfl ⟨by decide, by decide⟩) rfl rfl (Nat.le_of_ble_eq_true rfl) d_Mod_checksum_25 ⟨Nat.zero_le _, Nat.zero_le _⟩ ?_
  refine zx_iadd (pc := 28) hF d_Mod_checksum_28 ?_
  refine zx_istore (pc := 29) hF (lv' := [(6, .int (((((g_halves w0) + (g_halves w1)) + ((w2 >>> (16 &&& 31)) &&& 65535)) + (g_halves w3)) + (g_halves w4))), (0, .ref m0), (1, .int w0), (2, .int w1), (3, .int w2), (4, .int w3), (5, .int w4)]) d_Mod_checksum_29 (by decide) rfl ?_
  refine zx_ldc (pc := 31) hF wk_Mod_138 d_Mod_checksum_31 ?_
  refine zx_iload (pc := 33) hF d_Mod_checksum_33 0 rfl ?_
  refine zx_Si (pc := 35) hF (As := [.int (((((g_halves w0) + (g_halves w1)) + ((w2 >>> (16 &&& 31)) &&& 65535)) + (g_halves w3)) + (g_halves w4))]) (rest := [.int 65535]) (fun sz => M_Mod_fold l D K M (((((g_halves w0) + (g_halves w1)) + ((w2 >>> (16 &&& 31)) &&& 65535)) + (g_halves w3)) + (g_halves w4))  sz) [] rfl List.nodup_nil (as := []) rfl rfl (ws' := [cO m0 11 [.int (nI bN), .int (nI sN0), .int (nI pN), .long k0, .long k1, .int now, .ref x_wd, .ref x_beg, .ref x_std, .ref x_dea, .ref x_frm, .ref x_alv, .ref x_stm, .ref x_mov, .ref x_dwn, .ref x_ctd, .ref x_cutm, .ref x_pha, .ref x_usd, .ref x_gol, .ref x_esr, .ref x_epo, .ref x_offm, .ref x_ast, .ref x_opn, .ref x_ssr, .ref x_spo, .ref x_awa, .ref x_dat, .int kpt, .ref x_hd, .int by0, .int to0, .int rep, .int had, .int ost, .int bst, .ref x_inr]]) rfl (cw_Mod_144 hF.2.2.2.2.1 rfl rfl ⟨by decide, by decide⟩) rfl rfl (Nat.le_of_ble_eq_true rfl) d_Mod_checksum_35 ⟨Nat.zero_le _, Nat.zero_le _⟩ ?_
  refine zx_isub (pc := 38) hF d_Mod_checksum_38 ?_
  exact zx_iret (pc := 39) hF hr hlk (by first | rfl | (simp only []; done) | (simp only [↓reduceIte]; done) | simp []) (by first | rfl | (simp only []; done) | (simp only [↓reduceIte]; done) | simp []) d_Mod_checksum_39
