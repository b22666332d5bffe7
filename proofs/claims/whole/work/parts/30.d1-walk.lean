set_option maxRecDepth 20000 in
theorem M_Arr_fill (l : Launch) (D : va_G) (K : Nat → ClassId) (M : List (ClassId × FieldType)) (a0 : Nat) (n : Nat) (f : Nat → Int32) (v : Int32) (hn : n < 2 ^ 31) (sz : Nat) : zM l y_Arr_fill (zT y_Arr_fill b_Arr_fill 4 none) (zR 0 0) 0 0 D K M [.ref a0, .int v] [cI K a0 n f] sz (zQv D K M [cI K a0 n (f_fill n 0 v f)]) := by
  refine zx_head (by decide) (Nat.le_of_ble_eq_true rfl) ?_
  intro _ _ _ _ _ _ _ _ _ hF hr hlk hnm
  refine zx_iconst (pc := 0) hF d_Arr_fill_0 k_i0 ?_
  refine zx_istore_n (pc := 1) hF (lv' := [(2, .int 0), (0, .ref a0), (1, .int v)]) d_Arr_fill_1 rfl (by decide) rfl ?_
  refine zx_aload_n (pc := 2) hF d_Arr_fill_2 rfl 1 rfl ?_
  refine zx_alen (pc := 3) hF 0 0 rfl rfl (v := nI n) rfl d_Arr_fill_3 ?_
  refine zx_istore_n (pc := 4) hF (lv' := [(3, .int (nI n)), (2, .int 0), (0, .ref a0), (1, .int v)]) d_Arr_fill_4 rfl (by decide) rfl ?_
  refine zx_lv [2, 3, 1, 0] (lv' := [(0, .ref a0), (1, .int v), (2, .int 0), (3, .int (nI n))]) rfl ?_
  refine zx_loop (pc := 5) (σ := Nat × (Nat → Int32)) (fun k zv => (zv.1 + k = n) ∧ (f_fill k zv.1 v zv.2 = f_fill n 0 v f)) (fun zv => [cI K a0 n zv.2]) (fun zv => [(0, .ref a0), (1, .int v), (2, .int (nI zv.1)), (3, .int (nI n))]) n (0, f) ⟨by first | omega | (dsimp only; omega) | dsimp only, rfl⟩ rfl rfl ?_
  intro k zv hI ih
  obtain ⟨j, f'⟩ := zv
  obtain ⟨hk, hX⟩ := hI
  replace hk : j + k = n := hk
  replace hX : f_fill k j v f' = f_fill n 0 v f := hX
  refine zx_eq (ws' := [cI K a0 n f']) (lv' := [(0, .ref a0), (1, .int v), (2, .int (nI j)), (3, .int (nI n))]) rfl rfl rfl ?_
  refine zx_iload_n (pc := 5) hF d_Arr_fill_5 rfl 2 rfl ?_
  refine zx_iload_n (pc := 6) hF d_Arr_fill_6 rfl 3 rfl ?_
  refine zx_icmp_ge (pc := 7) hF d_Arr_fill_7 (tgt := 20) rfl (fun h7 => ?_) (fun h7 => ?_)
  · replace h7 : n ≤ j := (nI_leI (a := n) (b := j) (by omega) (by omega)).mp h7
    exact zx_vret (pc := 20) hF hr hlk (by obtain rfl : k = 0 := (by omega); rw [← hX]; rfl) d_Arr_fill_20
  · replace h7 : ¬ n ≤ j := fun z => h7 ((nI_leI (a := n) (b := j) (by omega) (by omega)).mpr z)
    refine zx_aload_n (pc := 10) hF d_Arr_fill_10 rfl 0 rfl ?_
    refine zx_iload_n (pc := 11) hF d_Arr_fill_11 rfl 2 rfl ?_
    refine zx_iload_n (pc := 12) hF d_Arr_fill_12 rfl 1 rfl ?_
    refine zx_iastn (pc := 13) hF (i := j) 0 rfl (by omega) (by omega) d_Arr_fill_13 (ws' := [cI K a0 n (upd f' j v)]) rfl ?_
    refine zx_iinc (pc := 14) hF (v := nI (j + 1)) (lv' := [(2, .int (nI (j + 1))), (0, .ref a0), (1, .int v), (3, .int (nI n))]) d_Arr_fill_14 2 rfl (zinc j) (by decide) rfl ?_
    refine zx_goto (pc := 17) hF d_Arr_fill_17 (tgt := 5) rfl ?_
    refine zx_lv [1, 2, 0, 3] (lv' := [(0, .ref a0), (1, .int v), (2, .int (nI (j + 1))), (3, .int (nI n))]) rfl ?_
    exact ih (k - 1) (j + 1, upd f' j v) (by omega) ⟨by first | omega | (dsimp only; omega) | dsimp only, by obtain ⟨k', rfl⟩ : ∃ k', k = k' + 1 := ⟨k - 1, by omega⟩; exact hX⟩
set_option maxRecDepth 20000 in
theorem M_Tab_serverAt (l : Launch) (D : va_G) (K : Nat → ClassId) (M : List (ClassId × FieldType)) (b0 : Nat) (b1 : Nat) (b2 : Nat) (b3 : Nat) (l0 : Nat) (chg : Int32) (m : Nat) (own : Nat → Int32) (j : Nat) (hm : m < 2 ^ 31) (hj : j < m) (sz : Nat) : zM l y_Tab_serverAt (zT y_Tab_serverAt b_Tab_serverAt 2 (some .int)) (zR 0 0) 0 0 D K M [.ref b0, .int (nI j)] [cO b0 8 [.int chg, .ref l0, .ref b1, .ref b2, .ref b3], cI K b1 m own] sz (zQi D K M (own j) [cO b0 8 [.int chg, .ref l0, .ref b1, .ref b2, .ref b3], cI K b1 m own]) := by
  refine zx_head (by decide) (Nat.le_of_ble_eq_true rfl) ?_
  intro _ _ _ _ _ _ _ _ _ hF hr hlk hnm
  refine zx_aload_n (pc := 0) hF d_Tab_serverAt_0 rfl 0 rfl ?_
  refine zg_Tab_21 (pc := 1) hF 0 rfl rfl d_Tab_serverAt_1 ?_
  refine zx_iload_n (pc := 4) hF d_Tab_serverAt_4 rfl 1 rfl ?_
  refine zx_ialdn (pc := 5) hF (i := j) 1 rfl (by omega) (by omega) d_Tab_serverAt_5 ?_
  exact zx_iret (pc := 6) hF hr hlk (by first | rfl | (simp only []; done) | (simp only [↓reduceIte]; done) | simp []) (by first | rfl | (simp only []; done) | (simp only [↓reduceIte]; done) | simp []) d_Tab_serverAt_6
set_option maxRecDepth 20000 in
theorem M_Tab_placesOf (l : Launch) (D : va_G) (K : Nat → ClassId) (M : List (ClassId × FieldType)) (b0 : Nat) (b1 : Nat) (b2 : Nat) (b3 : Nat) (l0 : Nat) (chg : Int32) (m : Nat) (own : Nat → Int32) (v : Int32) (hm : m < 2 ^ 31) (sz : Nat) : zM l y_Tab_placesOf (zT y_Tab_placesOf b_Tab_placesOf 4 (some .int)) (zR 0 0) 0 0 D K M [.ref b0, .int v] [cO b0 8 [.int chg, .ref l0, .ref b1, .ref b2, .ref b3], cI K b1 m own] sz (zQi D K M (nI (f_count (fun p => own p == v) m 0 0)) [cO b0 8 [.int chg, .ref l0, .ref b1, .ref b2, .ref b3], cI K b1 m own]) := by
  refine zx_head (by decide) (Nat.le_of_ble_eq_true rfl) ?_
  intro _ _ _ _ _ _ _ _ _ hF hr hlk hnm
  refine zx_iconst (pc := 0) hF d_Tab_placesOf_0 k_i0 ?_
  refine zx_istore_n (pc := 1) hF (lv' := [(2, .int 0), (0, .ref b0), (1, .int v)]) d_Tab_placesOf_1 rfl (by decide) rfl ?_
  refine zx_iconst (pc := 2) hF d_Tab_placesOf_2 k_i0 ?_
  refine zx_istore_n (pc := 3) hF (lv' := [(3, .int 0), (2, .int 0), (0, .ref b0), (1, .int v)]) d_Tab_placesOf_3 rfl (by decide) rfl ?_
  refine zx_lv [2, 3, 1, 0] (lv' := [(0, .ref b0), (1, .int v), (2, .int 0), (3, .int 0)]) rfl ?_
  refine zx_loop (pc := 4) (σ := Nat × Nat) (fun k zv => (zv.1 + k = m) ∧ (f_count (fun p => own p == v) k zv.1 zv.2 = f_count (fun p => own p == v) m 0 0)) (fun zv => [cO b0 8 [.int chg, .ref l0, .ref b1, .ref b2, .ref b3], cI K b1 m own]) (fun zv => [(0, .ref b0), (1, .int v), (2, .int (nI zv.2)), (3, .int (nI zv.1))]) m (0, 0) ⟨by first | omega | (dsimp only; omega) | dsimp only, rfl⟩ rfl rfl ?_
  intro k zv hI ih
  obtain ⟨j, c⟩ := zv
  obtain ⟨hk, hX⟩ := hI
  replace hk : j + k = m := hk
  replace hX : f_count (fun p => own p == v) k j c = f_count (fun p => own p == v) m 0 0 := hX
  refine zx_eq (ws' := [cO b0 8 [.int chg, .ref l0, .ref b1, .ref b2, .ref b3], cI K b1 m own]) (lv' := [(0, .ref b0), (1, .int v), (2, .int (nI c)), (3, .int (nI j))]) rfl rfl rfl ?_
  refine zx_iload_n (pc := 4) hF d_Tab_placesOf_4 rfl 3 rfl ?_
  refine zx_aload_n (pc := 5) hF d_Tab_placesOf_5 rfl 0 rfl ?_
  refine zg_Tab_21 (pc := 6) hF 0 rfl rfl d_Tab_placesOf_6 ?_
  refine zx_alen (pc := 9) hF 1 0 rfl rfl (v := nI m) rfl d_Tab_placesOf_9 ?_
  refine zx_icmp_ge (pc := 10) hF d_Tab_placesOf_10 (tgt := 32) rfl (fun h10 => ?_) (fun h10 => ?_)
  · replace h10 : m ≤ j := (nI_leI (a := m) (b := j) (by omega) (by omega)).mp h10
    refine zx_iload_n (pc := 32) hF d_Tab_placesOf_32 rfl 2 rfl ?_
    exact zx_iret (pc := 33) hF hr hlk (by obtain rfl : k = 0 := (by omega); rw [← hX]; rfl) rfl d_Tab_placesOf_33
  · replace h10 : ¬ m ≤ j := fun z => h10 ((nI_leI (a := m) (b := j) (by omega) (by omega)).mpr z)
    refine zx_aload_n (pc := 13) hF d_Tab_placesOf_13 rfl 0 rfl ?_
    refine zg_Tab_21 (pc := 14) hF 0 rfl rfl d_Tab_placesOf_14 ?_
    refine zx_iload_n (pc := 17) hF d_Tab_placesOf_17 rfl 3 rfl ?_
    refine zx_ialdn (pc := 18) hF (i := j) 1 rfl (by omega) (by omega) d_Tab_placesOf_18 ?_
    refine zx_iload_n (pc := 19) hF d_Tab_placesOf_19 rfl 1 rfl ?_
    refine zx_icmp_ne (pc := 20) hF d_Tab_placesOf_20 (tgt := 26) rfl (fun h20 => ?_) (fun h20 => ?_)
    · refine zx_iinc (pc := 26) hF (v := nI (j + 1)) (lv' := [(3, .int (nI (j + 1))), (0, .ref b0), (1, .int v), (2, .int (nI c))]) d_Tab_placesOf_26 3 rfl (zinc j) (by decide) rfl ?_
      refine zx_goto (pc := 29) hF d_Tab_placesOf_29 (tgt := 4) rfl ?_
      refine zx_lv [1, 2, 3, 0] (lv' := [(0, .ref b0), (1, .int v), (2, .int (nI c)), (3, .int (nI (j + 1)))]) rfl ?_
      exact ih (k - 1) (j + 1, c) (by omega) ⟨by first | omega | (dsimp only; omega) | dsimp only, by obtain ⟨k', rfl⟩ : ∃ k', k = k' + 1 := ⟨k - 1, by omega⟩; simpa [f_count, h10, h20] using hX⟩
    · refine zx_iinc (pc := 23) hF (v := nI (c + 1)) (lv' := [(2, .int (nI (c + 1))), (0, .ref b0), (1, .int v), (3, .int (nI j))]) d_Tab_placesOf_23 2 rfl (zinc c) (by decide) rfl ?_
      refine zx_iinc (pc := 26) hF (v := nI (j + 1)) (lv' := [(3, .int (nI (j + 1))), (2, .int (nI (c + 1))), (0, .ref b0), (1, .int v)]) d_Tab_placesOf_26 3 rfl (zinc j) (by decide) rfl ?_
      refine zx_goto (pc := 29) hF d_Tab_placesOf_29 (tgt := 4) rfl ?_
      refine zx_lv [2, 3, 1, 0] (lv' := [(0, .ref b0), (1, .int v), (2, .int (nI (c + 1))), (3, .int (nI (j + 1)))]) rfl ?_
      exact ih (k - 1) (j + 1, c + 1) (by omega) ⟨by first | omega | (dsimp only; omega) | dsimp only, by obtain ⟨k', rfl⟩ : ∃ k', k = k' + 1 := ⟨k - 1, by omega⟩; simpa [f_count, h10, h20] using hX⟩
set_option maxRecDepth 20000 in
theorem M_Tab_takeFirstFree (l : Launch) (D : va_G) (K : Nat → ClassId) (M : List (ClassId × FieldType)) (b0 : Nat) (b1 : Nat) (b2 : Nat) (b3 : Nat) (l0 : Nat) (chg : Int32) (m : Nat) (own : Nat → Int32) (l1 : Nat) (l2 : Nat) (n : Nat) (fst : Nat → Int32) (stp : Nat → Int32) (bef : Nat → Int32) (nxt : Nat → Int32) (fN : Nat → Nat) (sN : Nat → Nat) (q : Nat) (hm : 0 < m ∧ m ≤ 101) (hn : n ≤ 8) (hL : f_LN fst stp fN sN m n) (hq : q < n) (hx : nxt q = nI (nxt q).toNatClampNeg ∧ (nxt q).toNatClampNeg ≤ 500) (sz : Nat) : zM l y_Tab_takeFirstFree (zT y_Tab_takeFirstFree b_Tab_takeFirstFree 3 (some .int)) (zR 1 22) 0 0 D K M [.ref b0, .int (nI q)] [cO b0 8 [.int chg, .ref l0, .ref b1, .ref b2, .ref b3], cO l0 4 [.int (nI m), .ref l1, .ref l2], cI K l1 n fst, cI K l2 n stp, cI K b1 m own, cI K b2 m bef, cI K b3 n nxt] sz (zQi D K M (nI (f_pl fN sN m q (f_j1 fN sN m q own nxt))) [cO b0 8 [.int chg, .ref l0, .ref b1, .ref b2, .ref b3], cO l0 4 [.int (nI m), .ref l1, .ref l2], cI K l1 n fst, cI K l2 n stp, cI K b1 m own, cI K b2 m bef, cI K b3 n (upd nxt q (nI (f_j1 fN sN m q own nxt + 1)))]) := by
  refine zx_head (by decide) (Nat.le_of_ble_eq_true rfl) ?_
  intro _ _ _ _ _ _ _ _ _ hF hr hlk hnm
  refine zx_aload_n (pc := 0) hF d_Tab_takeFirstFree_0 rfl 0 rfl ?_
  refine zg_Tab_28 (pc := 1) hF 0 rfl rfl d_Tab_takeFirstFree_1 ?_
  refine zx_iload_n (pc := 4) hF d_Tab_takeFirstFree_4 rfl 1 rfl ?_
  refine zx_ialdn (pc := 5) hF (i := q) 6 rfl (by omega) (by omega) d_Tab_takeFirstFree_5 ?_
  refine zx_topi (nI (Int32.toNatClampNeg (nxt q))) (hx.1) ?_
  refine zx_istore_n (pc := 6) hF (lv' := [(2, .int (nI (Int32.toNatClampNeg (nxt q)))), (0, .ref b0), (1, .int (nI q))]) d_Tab_takeFirstFree_6 rfl (by decide) rfl ?_
  refine zx_lv [1, 2, 0] (lv' := [(0, .ref b0), (1, .int (nI q)), (2, .int (nI (Int32.toNatClampNeg (nxt q))))]) rfl ?_
  refine zx_loop (pc := 7) (σ := Nat) (fun k zv => (k = m - zv) ∧ (zv ≤ 700) ∧ (f_ff own (f_pl fN sN m q) k zv = f_j1 fN sN m q own nxt)) (fun zv => [cO b0 8 [.int chg, .ref l0, .ref b1, .ref b2, .ref b3], cO l0 4 [.int (nI m), .ref l1, .ref l2], cI K l1 n fst, cI K l2 n stp, cI K b1 m own, cI K b2 m bef, cI K b3 n nxt]) (fun zv => [(0, .ref b0), (1, .int (nI q)), (2, .int (nI zv))]) (m - (nxt q).toNatClampNeg) (Int32.toNatClampNeg (nxt q)) ⟨rfl, by first | omega | (dsimp only; omega) | dsimp only, rfl⟩ rfl rfl ?_
  intro k j hI ih
  obtain ⟨hk, hb, hX⟩ := hI
  replace hk : k = m - j := hk
  replace hb : j ≤ 700 := hb
  replace hX : f_ff own (f_pl fN sN m q) k j = f_j1 fN sN m q own nxt := hX
  refine zx_eq (ws' := [cO b0 8 [.int chg, .ref l0, .ref b1, .ref b2, .ref b3], cO l0 4 [.int (nI m), .ref l1, .ref l2], cI K l1 n fst, cI K l2 n stp, cI K b1 m own, cI K b2 m bef, cI K b3 n nxt]) (lv' := [(0, .ref b0), (1, .int (nI q)), (2, .int (nI j))]) rfl rfl rfl ?_
  refine zx_iload_n (pc := 7) hF d_Tab_takeFirstFree_7 rfl 2 rfl ?_
  refine zx_aload_n (pc := 8) hF d_Tab_takeFirstFree_8 rfl 0 rfl ?_
  refine zg_Tab_21 (pc := 9) hF 0 rfl rfl d_Tab_takeFirstFree_9 ?_
  refine zx_alen (pc := 12) hF 4 0 rfl rfl (v := nI m) rfl d_Tab_takeFirstFree_12 ?_
  refine zx_icmp_ge (pc := 13) hF d_Tab_takeFirstFree_13 (tgt := 40) rfl (fun h13 => ?_) (fun h13 => ?_)
  · replace h13 : m ≤ j := (nI_leI (a := m) (b := j) (by omega) (by omega)).mp h13
    have hj1 : j = f_j1 fN sN m q own nxt := by obtain rfl : k = 0 := (by omega); exact hX
    refine zx_aload_n (pc := 40) hF d_Tab_takeFirstFree_40 rfl 0 rfl ?_
    refine zg_Tab_28 (pc := 41) hF 0 rfl rfl d_Tab_takeFirstFree_41 ?_
    refine zx_iload_n (pc := 44) hF d_Tab_takeFirstFree_44 rfl 1 rfl ?_
    refine zx_iload_n (pc := 45) hF d_Tab_takeFirstFree_45 rfl 2 rfl ?_
    refine zx_iconst (pc := 46) hF d_Tab_takeFirstFree_46 k_i1 ?_
    refine zx_iadd (pc := 47) hF d_Tab_takeFirstFree_47 ?_
    refine zx_topi (nI (j + 1)) (nI_add j 1) ?_
    refine zx_iastn (pc := 48) hF (i := q) 6 rfl (by omega) (by omega) d_Tab_takeFirstFree_48 (ws' := [cO b0 8 [.int chg, .ref l0, .ref b1, .ref b2, .ref b3], cO l0 4 [.int (nI m), .ref l1, .ref l2], cI K l1 n fst, cI K l2 n stp, cI K b1 m own, cI K b2 m bef, cI K b3 n (upd nxt q (nI (j + 1)))]) rfl ?_
    refine zx_aload_n (pc := 49) hF d_Tab_takeFirstFree_49 rfl 0 rfl ?_
    refine zg_Tab_9 (pc := 50) hF 0 rfl rfl d_Tab_takeFirstFree_50 ?_
    refine zx_iload_n (pc := 53) hF d_Tab_takeFirstFree_53 rfl 1 rfl ?_
    refine zx_iload_n (pc := 54) hF d_Tab_takeFirstFree_54 rfl 2 rfl ?_
    refine zx_Vi (pc := 55) hF (As := [.int (nI q), .int (nI j)]) (rest := []) (fun sz => M_Lst_placeAt l D K M l0 l1 l2 n (nI m) fst stp q (nI j) (by first | assumption | omega) (by first | assumption | omega) (nI_ne0 hm.1 (by omega)) sz) [1, 2, 3] rfl (by decide) (as := [l0, l1, l2]) rfl rfl (ws' := [cO b0 8 [.int chg, .ref l0, .ref b1, .ref b2, .ref b3], cO l0 4 [.int (nI m), .ref l1, .ref l2], cI K l1 n fst, cI K l2 n stp, cI K b1 m own, cI K b2 m bef, cI K b3 n (upd nxt q (nI (j + 1)))]) rfl 0 4 rfl rfl rfl (cw_Tab_59 hF.2.2.2.2.1 rfl rfl ⟨by decide, by decide⟩) rfl rfl (Nat.le_of_ble_eq_true rfl) d_Tab_takeFirstFree_55 ⟨Nat.zero_le _, Nat.zero_le _⟩ ?_
    refine zx_topi (nI (f_pl fN sN m q j)) (f_pl_eq hL hm hq (by omega)) ?_
    exact zx_iret (pc := 58) hF hr hlk (by rw [hj1]) (by rw [hj1]) d_Tab_takeFirstFree_58
  · replace h13 : ¬ m ≤ j := fun z => h13 ((nI_leI (a := m) (b := j) (by omega) (by omega)).mpr z)
    refine zx_aload_n (pc := 16) hF d_Tab_takeFirstFree_16 rfl 0 rfl ?_
    refine zg_Tab_21 (pc := 17) hF 0 rfl rfl d_Tab_takeFirstFree_17 ?_
    refine zx_aload_n (pc := 20) hF d_Tab_takeFirstFree_20 rfl 0 rfl ?_
    refine zg_Tab_9 (pc := 21) hF 0 rfl rfl d_Tab_takeFirstFree_21 ?_
    refine zx_iload_n (pc := 24) hF d_Tab_takeFirstFree_24 rfl 1 rfl ?_
    refine zx_iload_n (pc := 25) hF d_Tab_takeFirstFree_25 rfl 2 rfl ?_
    refine zx_Vi (pc := 26) hF (As := [.int (nI q), .int (nI j)]) (rest := [.ref b1]) (fun sz => M_Lst_placeAt l D K M l0 l1 l2 n (nI m) fst stp q (nI j) (by first | assumption | omega) (by first | assumption | omega) (nI_ne0 hm.1 (by omega)) sz) [1, 2, 3] rfl (by decide) (as := [l0, l1, l2]) rfl rfl (ws' := [cO b0 8 [.int chg, .ref l0, .ref b1, .ref b2, .ref b3], cO l0 4 [.int (nI m), .ref l1, .ref l2], cI K l1 n fst, cI K l2 n stp, cI K b1 m own, cI K b2 m bef, cI K b3 n nxt]) rfl 0 4 rfl rfl rfl (cw_Tab_59 hF.2.2.2.2.1 rfl rfl ⟨by decide, by decide⟩) rfl rfl (Nat.le_of_ble_eq_true rfl) d_Tab_takeFirstFree_26 ⟨Nat.zero_le _, Nat.zero_le _⟩ ?_
    refine zx_topi (nI (f_pl fN sN m q j)) (f_pl_eq hL hm hq (by omega)) ?_
    refine zx_ialdn (pc := 29) hF (i := f_pl fN sN m q j) 4 rfl (f_pl_lt hm.1) (by omega) d_Tab_takeFirstFree_29 ?_
    refine zx_iconst (pc := 30) hF d_Tab_takeFirstFree_30 k_im1 ?_
    refine zx_icmp_eq (pc := 31) hF d_Tab_takeFirstFree_31 (tgt := 40) rfl (fun h31 => ?_) (fun h31 => ?_)
    · have hj1 : j = f_j1 fN sN m q own nxt := by obtain ⟨k', rfl⟩ : ∃ k', k = k' + 1 := ⟨k - 1, by omega⟩; simpa [f_ff, h31] using hX
      refine zx_aload_n (pc := 40) hF d_Tab_takeFirstFree_40 rfl 0 rfl ?_
      refine zg_Tab_28 (pc := 41) hF 0 rfl rfl d_Tab_takeFirstFree_41 ?_
      refine zx_iload_n (pc := 44) hF d_Tab_takeFirstFree_44 rfl 1 rfl ?_
      refine zx_iload_n (pc := 45) hF d_Tab_takeFirstFree_45 rfl 2 rfl ?_
      refine zx_iconst (pc := 46) hF d_Tab_takeFirstFree_46 k_i1 ?_
      refine zx_iadd (pc := 47) hF d_Tab_takeFirstFree_47 ?_
      refine zx_topi (nI (j + 1)) (nI_add j 1) ?_
      refine zx_iastn (pc := 48) hF (i := q) 6 rfl (by omega) (by omega) d_Tab_takeFirstFree_48 (ws' := [cO b0 8 [.int chg, .ref l0, .ref b1, .ref b2, .ref b3], cO l0 4 [.int (nI m), .ref l1, .ref l2], cI K l1 n fst, cI K l2 n stp, cI K b1 m own, cI K b2 m bef, cI K b3 n (upd nxt q (nI (j + 1)))]) rfl ?_
      refine zx_aload_n (pc := 49) hF d_Tab_takeFirstFree_49 rfl 0 rfl ?_
      refine zg_Tab_9 (pc := 50) hF 0 rfl rfl d_Tab_takeFirstFree_50 ?_
      refine zx_iload_n (pc := 53) hF d_Tab_takeFirstFree_53 rfl 1 rfl ?_
      refine zx_iload_n (pc := 54) hF d_Tab_takeFirstFree_54 rfl 2 rfl ?_
      refine zx_Vi (pc := 55) hF (As := [.int (nI q), .int (nI j)]) (rest := []) (fun sz => M_Lst_placeAt l D K M l0 l1 l2 n (nI m) fst stp q (nI j) (by first | assumption | omega) (by first | assumption | omega) (nI_ne0 hm.1 (by omega)) sz) [1, 2, 3] rfl (by decide) (as := [l0, l1, l2]) rfl rfl (ws' := [cO b0 8 [.int chg, .ref l0, .ref b1, .ref b2, .ref b3], cO l0 4 [.int (nI m), .ref l1, .ref l2], cI K l1 n fst, cI K l2 n stp, cI K b1 m own, cI K b2 m bef, cI K b3 n (upd nxt q (nI (j + 1)))]) rfl 0 4 rfl rfl rfl (cw_Tab_59 hF.2.2.2.2.1 rfl rfl ⟨by decide, by decide⟩) rfl rfl (Nat.le_of_ble_eq_true rfl) d_Tab_takeFirstFree_55 ⟨Nat.zero_le _, Nat.zero_le _⟩ ?_
      refine zx_topi (nI (f_pl fN sN m q j)) (f_pl_eq hL hm hq (by omega)) ?_
      exact zx_iret (pc := 58) hF hr hlk (by rw [hj1]) (by rw [hj1]) d_Tab_takeFirstFree_58
    · refine zx_iinc (pc := 34) hF (v := nI (j + 1)) (lv' := [(2, .int (nI (j + 1))), (0, .ref b0), (1, .int (nI q))]) d_Tab_takeFirstFree_34 2 rfl (zinc j) (by decide) rfl ?_
      refine zx_goto (pc := 37) hF d_Tab_takeFirstFree_37 (tgt := 7) rfl ?_
      refine zx_lv [1, 2, 0] (lv' := [(0, .ref b0), (1, .int (nI q)), (2, .int (nI (j + 1)))]) rfl ?_
      exact ih (k - 1) (j + 1) (by omega) ⟨by first | omega | (dsimp only; omega) | dsimp only, by first | omega | (dsimp only; omega) | dsimp only, by obtain ⟨k', rfl⟩ : ∃ k', k = k' + 1 := ⟨k - 1, by omega⟩; simpa [f_ff, h31] using hX⟩
set_option maxRecDepth 20000 in
theorem M_Tab_fill (l : Launch) (D : va_G) (K : Nat → ClassId) (M : List (ClassId × FieldType)) (b0 : Nat) (b1 : Nat) (b2 : Nat) (b3 : Nat) (l0 : Nat) (chg : Int32) (m : Nat) (own : Nat → Int32) (l1 : Nat) (l2 : Nat) (n : Nat) (fst : Nat → Int32) (stp : Nat → Int32) (bef : Nat → Int32) (nxt : Nat → Int32) (fN : Nat → Nat) (sN : Nat → Nat) (w0 : Nat) (w1 : Nat) (w2 : Nat) (up : Nat → Int32) (con : Nat → Int32) (hm : 0 < m ∧ m ≤ 101) (hn : n ≤ 8) (hL : f_LN fst stp fN sN m n) (hu : z01 up) (sz : Nat) : zM l y_Tab_fill (zT y_Tab_fill b_Tab_fill 5 none) (zR 2 44) 0 0 D K M [.ref b0, .ref w0] [cO b0 8 [.int chg, .ref l0, .ref b1, .ref b2, .ref b3], cO l0 4 [.int (nI m), .ref l1, .ref l2], cI K l1 n fst, cI K l2 n stp, cI K b1 m own, cI K b2 m bef, cI K b3 n nxt, cO w0 9 [.ref w1, .ref w2], cZ K w1 n up, cI K w2 n con] sz (zQv D K M [cO b0 8 [.int chg, .ref l0, .ref b1, .ref b2, .ref b3], cO l0 4 [.int (nI m), .ref l1, .ref l2], cI K l1 n fst, cI K l2 n stp, cI K b1 m (f_tab fN sN m n up own nxt).1, cI K b2 m bef, cI K b3 n (f_tab fN sN m n up own nxt).2.1, cO w0 9 [.ref w1, .ref w2], cZ K w1 n up, cI K w2 n con]) := by
  refine zx_head (by decide) (Nat.le_of_ble_eq_true rfl) ?_
  intro _ _ _ _ _ _ _ _ _ hF hr hlk hnm
  refine zx_aload_n (pc := 0) hF d_Tab_fill_0 rfl 0 rfl ?_
  refine zg_Tab_21 (pc := 1) hF 0 rfl rfl d_Tab_fill_1 ?_
  refine zx_iconst (pc := 4) hF d_Tab_fill_4 k_im1 ?_
  refine zx_Sv (pc := 5) hF (As := [.ref b1, .int (-1)]) (rest := []) (fun sz => M_Arr_fill l D K M b1 m own (-1) (by omega) sz) [4] rfl (by decide) (as := [b1]) rfl rfl (ws' := [cO b0 8 [.int chg, .ref l0, .ref b1, .ref b2, .ref b3], cO l0 4 [.int (nI m), .ref l1, .ref l2], cI K l1 n fst, cI K l2 n stp, cI K b1 m (f_fill m 0 (-1) own), cI K b2 m bef, cI K b3 n nxt, cO w0 9 [.ref w1, .ref w2], cZ K w1 n up, cI K w2 n con]) rfl (cw_Tab_44 hF.2.2.2.2.1 rfl rfl ⟨by decide, by decide⟩) rfl rfl (Nat.le_of_ble_eq_true rfl) d_Tab_fill_5 ⟨Nat.zero_le _, Nat.zero_le _⟩ ?_
  refine zx_aload_n (pc := 8) hF d_Tab_fill_8 rfl 0 rfl ?_
  refine zg_Tab_28 (pc := 9) hF 0 rfl rfl d_Tab_fill_9 ?_
  refine zx_iconst (pc := 12) hF d_Tab_fill_12 k_i0 ?_
  refine zx_Sv (pc := 13) hF (As := [.ref b3, .int 0]) (rest := []) (fun sz => M_Arr_fill l D K M b3 n nxt 0 (by omega) sz) [6] rfl (by decide) (as := [b3]) rfl rfl (ws' := [cO b0 8 [.int chg, .ref l0, .ref b1, .ref b2, .ref b3], cO l0 4 [.int (nI m), .ref l1, .ref l2], cI K l1 n fst, cI K l2 n stp, cI K b1 m (f_fill m 0 (-1) own), cI K b2 m bef, cI K b3 n (f_fill n 0 0 nxt), cO w0 9 [.ref w1, .ref w2], cZ K w1 n up, cI K w2 n con]) rfl (cw_Tab_44 hF.2.2.2.2.1 rfl rfl ⟨by decide, by decide⟩) rfl rfl (Nat.le_of_ble_eq_true rfl) d_Tab_fill_13 ⟨Nat.zero_le _, Nat.zero_le _⟩ ?_
  refine zx_iconst (pc := 16) hF d_Tab_fill_16 k_i0 ?_
  refine zx_istore_n (pc := 17) hF (lv' := [(2, .int 0), (0, .ref b0), (1, .ref w0)]) d_Tab_fill_17 rfl (by decide) rfl ?_
  refine zx_iconst (pc := 18) hF d_Tab_fill_18 k_i0 ?_
  refine zx_istore_n (pc := 19) hF (lv' := [(3, .int 0), (2, .int 0), (0, .ref b0), (1, .ref w0)]) d_Tab_fill_19 rfl (by decide) rfl ?_
  refine zx_lv [2, 3, 1, 0] (lv' := [(0, .ref b0), (1, .ref w0), (2, .int 0), (3, .int 0)]) rfl ?_
  refine zx_loop (pc := 20) (σ := Nat × Nat × (Nat → Int32) × (Nat → Int32)) (fun k1 zv => (zv.1 + k1 = m) ∧ (zv.2.1 ≤ m) ∧ (f_nok zv.2.2.2 n (m + zv.2.1)) ∧ (f_outer fN sN m n up k1 (zv.2.2.1, zv.2.2.2, zv.2.1) = f_tab fN sN m n up own nxt)) (fun zv => [cO b0 8 [.int chg, .ref l0, .ref b1, .ref b2, .ref b3], cO l0 4 [.int (nI m), .ref l1, .ref l2], cI K l1 n fst, cI K l2 n stp, cI K b1 m zv.2.2.1, cI K b2 m bef, cI K b3 n zv.2.2.2, cO w0 9 [.ref w1, .ref w2], cZ K w1 n up, cI K w2 n con]) (fun zv => [(0, .ref b0), (1, .ref w0), (2, .int (nI zv.2.1)), (3, .int (nI zv.1))]) m (0, 0, f_fill m 0 (-1) own, f_fill n 0 0 nxt) ⟨by first | omega | (dsimp only; omega) | dsimp only, by first | omega | (dsimp only; omega) | dsimp only, f_nok_0, rfl⟩ rfl rfl ?_
  intro k1 zv hI ih1
  obtain ⟨t, g, own', nxt'⟩ := zv
  obtain ⟨hk1, hg1, hN1, hX1⟩ := hI
  replace hk1 : t + k1 = m := hk1
  replace hg1 : g ≤ m := hg1
  replace hN1 : f_nok nxt' n (m + g) := hN1
  replace hX1 : f_outer fN sN m n up k1 (own', nxt', g) = f_tab fN sN m n up own nxt := hX1
  refine zx_eq (ws' := [cO b0 8 [.int chg, .ref l0, .ref b1, .ref b2, .ref b3], cO l0 4 [.int (nI m), .ref l1, .ref l2], cI K l1 n fst, cI K l2 n stp, cI K b1 m own', cI K b2 m bef, cI K b3 n nxt', cO w0 9 [.ref w1, .ref w2], cZ K w1 n up, cI K w2 n con]) (lv' := [(0, .ref b0), (1, .ref w0), (2, .int (nI g)), (3, .int (nI t))]) rfl rfl rfl ?_
  refine zx_iload_n (pc := 20) hF d_Tab_fill_20 rfl 3 rfl ?_
  refine zx_aload_n (pc := 21) hF d_Tab_fill_21 rfl 0 rfl ?_
  refine zg_Tab_21 (pc := 22) hF 0 rfl rfl d_Tab_fill_22 ?_
  refine zx_alen (pc := 25) hF 4 0 rfl rfl (v := nI m) rfl d_Tab_fill_25 ?_
  refine zx_icmp_ge (pc := 26) hF d_Tab_fill_26 (tgt := 88) rfl (fun h26 => ?_) (fun h26 => ?_)
  · replace h26 : m ≤ t := (nI_leI (a := m) (b := t) (by omega) (by omega)).mp h26
    exact zx_vret (pc := 88) hF hr hlk (by obtain rfl : k1 = 0 := (by omega); rw [← hX1]; rfl) d_Tab_fill_88
  · replace h26 : ¬ m ≤ t := fun z => h26 ((nI_leI (a := m) (b := t) (by omega) (by omega)).mpr z)
    refine zx_iconst (pc := 29) hF d_Tab_fill_29 k_i0 ?_
    refine zx_istore (pc := 30) hF (lv' := [(4, .int 0), (0, .ref b0), (1, .ref w0), (2, .int (nI g)), (3, .int (nI t))]) d_Tab_fill_30 (by decide) rfl ?_
    refine zx_lv [1, 2, 3, 4, 0] (lv' := [(0, .ref b0), (1, .ref w0), (2, .int (nI g)), (3, .int (nI t)), (4, .int 0)]) rfl ?_
    refine zx_loop (pc := 32) (σ := Nat × Nat × (Nat → Int32) × (Nat → Int32)) (fun k zv => (zv.1 + k = n) ∧ (zv.2.1 ≤ m) ∧ (f_nok zv.2.2.2 n (m + zv.2.1)) ∧ (f_outer fN sN m n up (k1 - 1) (f_inner fN sN m up k zv.1 (zv.2.2.1, zv.2.2.2, zv.2.1)) = f_tab fN sN m n up own nxt)) (fun zv => [cO b0 8 [.int chg, .ref l0, .ref b1, .ref b2, .ref b3], cO l0 4 [.int (nI m), .ref l1, .ref l2], cI K l1 n fst, cI K l2 n stp, cI K b1 m zv.2.2.1, cI K b2 m bef, cI K b3 n zv.2.2.2, cO w0 9 [.ref w1, .ref w2], cZ K w1 n up, cI K w2 n con]) (fun zv => [(0, .ref b0), (1, .ref w0), (2, .int (nI zv.2.1)), (3, .int (nI t)), (4, .int (nI zv.1))]) n (0, g, own', nxt') ⟨by first | omega | (dsimp only; omega) | dsimp only, by assumption, by assumption, by obtain ⟨k', rfl⟩ : ∃ k', k1 = k' + 1 := ⟨k1 - 1, by omega⟩; exact hX1⟩ rfl rfl ?_
    intro k zv hI ih
    obtain ⟨j, g, own', nxt'⟩ := zv
    obtain ⟨hk, hg, hN, hX⟩ := hI
    replace hk : j + k = n := hk
    replace hg : g ≤ m := hg
    replace hN : f_nok nxt' n (m + g) := hN
    replace hX : f_outer fN sN m n up (k1 - 1) (f_inner fN sN m up k j (own', nxt', g)) = f_tab fN sN m n up own nxt := hX
    refine zx_eq (ws' := [cO b0 8 [.int chg, .ref l0, .ref b1, .ref b2, .ref b3], cO l0 4 [.int (nI m), .ref l1, .ref l2], cI K l1 n fst, cI K l2 n stp, cI K b1 m own', cI K b2 m bef, cI K b3 n nxt', cO w0 9 [.ref w1, .ref w2], cZ K w1 n up, cI K w2 n con]) (lv' := [(0, .ref b0), (1, .ref w0), (2, .int (nI g)), (3, .int (nI t)), (4, .int (nI j))]) rfl rfl rfl ?_
    refine zx_iload (pc := 32) hF d_Tab_fill_32 4 rfl ?_
    refine zx_aload_n (pc := 34) hF d_Tab_fill_34 rfl 0 rfl ?_
    refine zg_Tab_28 (pc := 35) hF 0 rfl rfl d_Tab_fill_35 ?_
    refine zx_alen (pc := 38) hF 6 0 rfl rfl (v := nI n) rfl d_Tab_fill_38 ?_
    refine zx_icmp_ge (pc := 39) hF d_Tab_fill_39 (tgt := 82) rfl (fun h39 => ?_) (fun h39 => ?_)
    · replace h39 : n ≤ j := (nI_leI (a := n) (b := j) (by omega) (by omega)).mp h39
      refine zx_iinc (pc := 82) hF (v := nI (t + 1)) (lv' := [(3, .int (nI (t + 1))), (0, .ref b0), (1, .ref w0), (2, .int (nI g)), (4, .int (nI j))]) d_Tab_fill_82 3 rfl (zinc t) (by decide) rfl ?_
      refine zx_goto (pc := 85) hF d_Tab_fill_85 (tgt := 20) rfl ?_
      refine zx_lv [1, 2, 3, 0] (lv' := [(0, .ref b0), (1, .ref w0), (2, .int (nI g)), (3, .int (nI (t + 1)))]) rfl ?_
      exact ih1 (k1 - 1) (t + 1, g, own', nxt') (by omega) ⟨by first | omega | (dsimp only; omega) | dsimp only, by assumption, by assumption, by obtain rfl : k = 0 := (by omega); exact hX⟩
    · replace h39 : ¬ n ≤ j := fun z => h39 ((nI_leI (a := n) (b := j) (by omega) (by omega)).mpr z)
      refine zx_aload_n (pc := 42) hF d_Tab_fill_42 rfl 1 rfl ?_
      refine zx_iload (pc := 43) hF d_Tab_fill_43 4 rfl ?_
      refine zx_Vi (pc := 45) hF (As := [.int (nI j)]) (rest := []) (fun sz => M_Wat_isUp l D K M w0 w1 w2 n up con j (by omega) (by first | assumption | omega) (by first | assumption | omega) sz) [7, 8, 9] rfl (by decide) (as := [w0, w1, w2]) rfl rfl (ws' := [cO b0 8 [.int chg, .ref l0, .ref b1, .ref b2, .ref b3], cO l0 4 [.int (nI m), .ref l1, .ref l2], cI K l1 n fst, cI K l2 n stp, cI K b1 m own', cI K b2 m bef, cI K b3 n nxt', cO w0 9 [.ref w1, .ref w2], cZ K w1 n up, cI K w2 n con]) rfl 0 9 rfl rfl rfl (cw_Tab_49 hF.2.2.2.2.1 rfl rfl ⟨by decide, by decide⟩) rfl rfl (Nat.le_of_ble_eq_true rfl) d_Tab_fill_45 ⟨Nat.zero_le _, Nat.zero_le _⟩ ?_
      refine zx_if_eq (pc := 48) hF d_Tab_fill_48 (tgt := 76) rfl (fun h48 => ?_) (fun h48 => ?_)
      · refine zx_iinc (pc := 76) hF (v := nI (j + 1)) (lv' := [(4, .int (nI (j + 1))), (0, .ref b0), (1, .ref w0), (2, .int (nI g)), (3, .int (nI t))]) d_Tab_fill_76 4 rfl (zinc j) (by decide) rfl ?_
        refine zx_goto (pc := 79) hF d_Tab_fill_79 (tgt := 32) rfl ?_
        refine zx_lv [1, 2, 3, 4, 0] (lv' := [(0, .ref b0), (1, .ref w0), (2, .int (nI g)), (3, .int (nI t)), (4, .int (nI (j + 1)))]) rfl ?_
        exact ih (k - 1) (j + 1, g, own', nxt') (by omega) ⟨by first | omega | (dsimp only; omega) | dsimp only, by first | omega | (dsimp only; omega) | dsimp only, by assumption, by obtain ⟨k', rfl⟩ : ∃ k', k = k' + 1 := ⟨k - 1, by omega⟩; simpa [f_inner, f_turn, h39, h48] using hX⟩
      · refine zx_iload_n (pc := 51) hF d_Tab_fill_51 rfl 2 rfl ?_
        refine zx_aload_n (pc := 52) hF d_Tab_fill_52 rfl 0 rfl ?_
        refine zg_Tab_21 (pc := 53) hF 0 rfl rfl d_Tab_fill_53 ?_
        refine zx_alen (pc := 56) hF 4 0 rfl rfl (v := nI m) rfl d_Tab_fill_56 ?_
        refine zx_icmp_ge (pc := 57) hF d_Tab_fill_57 (tgt := 76) rfl (fun h57 => ?_) (fun h57 => ?_)
        · replace h57 : m ≤ g := (nI_leI (a := m) (b := g) (by omega) (by omega)).mp h57
          refine zx_iinc (pc := 76) hF (v := nI (j + 1)) (lv' := [(4, .int (nI (j + 1))), (0, .ref b0), (1, .ref w0), (2, .int (nI g)), (3, .int (nI t))]) d_Tab_fill_76 4 rfl (zinc j) (by decide) rfl ?_
          refine zx_goto (pc := 79) hF d_Tab_fill_79 (tgt := 32) rfl ?_
          refine zx_lv [1, 2, 3, 4, 0] (lv' := [(0, .ref b0), (1, .ref w0), (2, .int (nI g)), (3, .int (nI t)), (4, .int (nI (j + 1)))]) rfl ?_
          exact ih (k - 1) (j + 1, g, own', nxt') (by omega) ⟨by first | omega | (dsimp only; omega) | dsimp only, by first | omega | (dsimp only; omega) | dsimp only, by assumption, by obtain ⟨k', rfl⟩ : ∃ k', k = k' + 1 := ⟨k - 1, by omega⟩; simpa [f_inner, f_turn, h39, h48, h57] using hX⟩
        · replace h57 : ¬ m ≤ g := fun z => h57 ((nI_leI (a := m) (b := g) (by omega) (by omega)).mpr z)
          refine zx_aload_n (pc := 60) hF d_Tab_fill_60 rfl 0 rfl ?_
          refine zg_Tab_21 (pc := 61) hF 0 rfl rfl d_Tab_fill_61 ?_
          refine zx_aload_n (pc := 64) hF d_Tab_fill_64 rfl 0 rfl ?_
          refine zx_iload (pc := 65) hF d_Tab_fill_65 4 rfl ?_
          refine zx_Vi (pc := 67) hF (As := [.int (nI j)]) (rest := [.ref b1]) (fun sz => M_Tab_takeFirstFree l D K M b0 b1 b2 b3 l0 chg m own' l1 l2 n fst stp bef nxt' fN sN j (by first | assumption | omega) (by first | assumption | omega) (by first | assumption | omega) (by omega) ⟨(hN j (by omega)).1, by have h8 := (hN j (by omega)).2; omega⟩ sz) [0, 1, 2, 3, 4, 5, 6] rfl (by decide) (as := [b0, l0, l1, l2, b1, b2, b3]) rfl rfl (ws' := [cO b0 8 [.int chg, .ref l0, .ref b1, .ref b2, .ref b3], cO l0 4 [.int (nI m), .ref l1, .ref l2], cI K l1 n fst, cI K l2 n stp, cI K b1 m own', cI K b2 m bef, cI K b3 n (upd nxt' j (nI (f_j1 fN sN m j own' nxt' + 1))), cO w0 9 [.ref w1, .ref w2], cZ K w1 n up, cI K w2 n con]) rfl 0 8 rfl rfl rfl (cw_Tab_55 hF.2.2.2.2.1 rfl rfl ⟨by decide, by decide⟩) rfl rfl (Nat.le_of_ble_eq_true rfl) d_Tab_fill_67 ⟨Nat.zero_le _, Nat.zero_le _⟩ ?_
          refine zx_iload (pc := 70) hF d_Tab_fill_70 4 rfl ?_
          refine zx_iastn (pc := 72) hF (i := f_pl fN sN m j (f_j1 fN sN m j own' nxt')) 4 rfl (f_pl_lt hm.1) (by omega) d_Tab_fill_72 (ws' := [cO b0 8 [.int chg, .ref l0, .ref b1, .ref b2, .ref b3], cO l0 4 [.int (nI m), .ref l1, .ref l2], cI K l1 n fst, cI K l2 n stp, cI K b1 m (upd own' (f_pl fN sN m j (f_j1 fN sN m j own' nxt')) (nI j)), cI K b2 m bef, cI K b3 n (upd nxt' j (nI (f_j1 fN sN m j own' nxt' + 1))), cO w0 9 [.ref w1, .ref w2], cZ K w1 n up, cI K w2 n con]) rfl ?_
          refine zx_iinc (pc := 73) hF (v := nI (g + 1)) (lv' := [(2, .int (nI (g + 1))), (0, .ref b0), (1, .ref w0), (3, .int (nI t)), (4, .int (nI j))]) d_Tab_fill_73 2 rfl (zinc g) (by decide) rfl ?_
          refine zx_iinc (pc := 76) hF (v := nI (j + 1)) (lv' := [(4, .int (nI (j + 1))), (2, .int (nI (g + 1))), (0, .ref b0), (1, .ref w0), (3, .int (nI t))]) d_Tab_fill_76 4 rfl (zinc j) (by decide) rfl ?_
          refine zx_goto (pc := 79) hF d_Tab_fill_79 (tgt := 32) rfl ?_
          refine zx_lv [2, 3, 1, 4, 0] (lv' := [(0, .ref b0), (1, .ref w0), (2, .int (nI (g + 1))), (3, .int (nI t)), (4, .int (nI (j + 1)))]) rfl ?_
          exact ih (k - 1) (j + 1, g + 1, upd own' (f_pl fN sN m j (f_j1 fN sN m j own' nxt')) (nI j), upd nxt' j (nI (f_j1 fN sN m j own' nxt' + 1))) (by omega) ⟨by first | omega | (dsimp only; omega) | dsimp only, by first | omega | (dsimp only; omega) | dsimp only, f_nok_put (b := m + g) hN (by unfold f_j1; have h9 := f_ff_le own' (f_pl fN sN m j) (m - (nxt' j).toNatClampNeg) (nxt' j).toNatClampNeg; have h8 := (hN j (by omega)).2; omega) (by omega), by obtain ⟨k', rfl⟩ : ∃ k', k = k' + 1 := ⟨k - 1, by omega⟩; simpa [f_inner, f_turn, h39, h48, h57] using hX⟩
