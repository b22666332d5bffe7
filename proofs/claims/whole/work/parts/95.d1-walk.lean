set_option maxRecDepth 20000 in
theorem M_Stp_init (l : Launch) (D : va_G) (K : Nat → ClassId) (M : List (ClassId × FieldType)) (a0 : Nat) (x : Int32) (sz : Nat) : zM l y_Stp_init (zT y_Stp_init b_Stp_init 2 none) (zRc 1 20 0 0) 0 0 D K M [.ref a0, .int x] [cO a0 7 [.int 0]] sz (zQn D K M (fun u => [cO a0 7 [.int x]] ++ [])) := by
  refine zx_head (by decide) (Nat.le_of_ble_eq_true rfl) ?_
  intro _ _ _ _ _ _ _ _ _ hF hr hlk hnm
  refine zx_aload_n (pc := 0) hF d_Stp_init_0 rfl 0 rfl ?_
  refine zx_oi (pc := 1) hF wm_Stp_3 (Nat.le_of_ble_eq_true rfl) (Nat.le_of_ble_eq_true rfl) d_Stp_init_1 ?_
  refine zx_aload_n (pc := 4) hF d_Stp_init_4 rfl 0 rfl ?_
  refine zx_iload_n (pc := 5) hF d_Stp_init_5 rfl 1 rfl ?_
  refine zp_Stp_9 (pc := 6) hF 0 rfl (Nat.le_of_ble_eq_true rfl) d_Stp_init_6 (ws' := [cO a0 7 [.int x]]) rfl ?_
  exact zx_nret (pc := 9) hF hr hlk (fun _ => 0) rfl d_Stp_init_9
set_option maxRecDepth 20000 in
theorem M_Dig_init (l : Launch) (D : va_G) (K : Nat → ClassId) (M : List (ClassId × FieldType)) (a0 : Nat) (k0 : Int64) (k1 : Int64) (sz : Nat) : zM l y_Dig_init (zT y_Dig_init b_Dig_init 5 none) (zRc 1 20 0 0) 0 0 D K M [.ref a0, .long k0, .long k1] [cO a0 2 [.long 0, .long 0, .long 0, .long 0, .long 0, .long 0]] sz (zQn D K M (fun u => [cO a0 2 [.long k0, .long k1, .long 0, .long 0, .long 0, .long 0]] ++ [])) := by
  refine zx_head (by decide) (Nat.le_of_ble_eq_true rfl) ?_
  intro _ _ _ _ _ _ _ _ _ hF hr hlk hnm
  refine zx_aload_n (pc := 0) hF d_Dig_init_0 rfl 0 rfl ?_
  refine zx_oi (pc := 1) hF wm_Dig_1 (Nat.le_of_ble_eq_true rfl) (Nat.le_of_ble_eq_true rfl) d_Dig_init_1 ?_
  refine zx_aload_n (pc := 4) hF d_Dig_init_4 rfl 0 rfl ?_
  refine zx_lload_n (pc := 5) hF d_Dig_init_5 rfl 1 rfl ?_
  refine zp_Dig_7 (pc := 6) hF hnm 0 rfl (Nat.le_of_ble_eq_true rfl) d_Dig_init_6 (ws' := [cO a0 2 [.long k0, .long 0, .long 0, .long 0, .long 0, .long 0]]) rfl ?_
  refine zx_aload_n (pc := 9) hF d_Dig_init_9 rfl 0 rfl ?_
  refine zx_lload_n (pc := 10) hF d_Dig_init_10 rfl 2 rfl ?_
  refine zp_Dig_13 (pc := 11) hF hnm 0 rfl (Nat.le_of_ble_eq_true rfl) d_Dig_init_11 (ws' := [cO a0 2 [.long k0, .long k1, .long 0, .long 0, .long 0, .long 0]]) rfl ?_
  exact zx_nret (pc := 14) hF hr hlk (fun _ => 0) rfl d_Dig_init_14
set_option maxRecDepth 20000 in
theorem M_Slo_init (l : Launch) (D : va_G) (K : Nat → ClassId) (M : List (ClassId × FieldType)) (a0 : Nat) (n : Nat) (hn : n ≤ 10) (sz : Nat) : zM l y_Slo_init (zT y_Slo_init b_Slo_init 2 none) (zRc 1 20 3 30) 3 30 D K M [.ref a0, .int (nI n)] [cO a0 6 [.null, .null, .null, .int 0]] sz (zQn D K M (fun u => [cO a0 6 [.ref (u 0), .ref (u 1), .ref (u 2), .int 0]] ++ [cI K (u 0) n (fun _ => 0), cI K (u 1) n (fun _ => 0), cZ K (u 2) n (fun _ => 0)])) := by
  refine zx_head (by decide) (Nat.le_of_ble_eq_true rfl) ?_
  intro _ _ _ _ _ _ _ _ _ hF hr hlk hnm
  refine zx_aload_n (pc := 0) hF d_Slo_init_0 rfl 0 rfl ?_
  refine zx_oi (pc := 1) hF wm_Slo_3 (Nat.le_of_ble_eq_true rfl) (Nat.le_of_ble_eq_true rfl) d_Slo_init_1 ?_
  refine zx_aload_n (pc := 4) hF d_Slo_init_4 rfl 0 rfl ?_
  refine zx_iload_n (pc := 5) hF d_Slo_init_5 rfl 1 rfl ?_
  refine zx_newaI (pc := 6) hF (n := n) 10 (by omega) (by omega) (Nat.le_of_ble_eq_true rfl) (Nat.le_of_ble_eq_true rfl) d_Slo_init_6 (fun z1 => ?_)
  refine zx_eq (ws' := [cO a0 6 [.null, .null, .null, .int 0], cI K z1 n (fun _ => 0)]) (lv' := [(0, .ref a0), (1, .int (nI n))]) rfl rfl rfl ?_
  refine zp_Slo_9 (pc := 8) hF hnm 0 rfl (Nat.le_of_ble_eq_true rfl) d_Slo_init_8 (ws' := [cO a0 6 [.ref z1, .null, .null, .int 0], cI K z1 n (fun _ => 0)]) rfl ?_
  refine zx_aload_n (pc := 11) hF d_Slo_init_11 rfl 0 rfl ?_
  refine zx_iload_n (pc := 12) hF d_Slo_init_12 rfl 1 rfl ?_
  refine zx_newaI (pc := 13) hF (n := n) 10 (by omega) (by omega) (Nat.le_of_ble_eq_true rfl) (Nat.le_of_ble_eq_true rfl) d_Slo_init_13 (fun z2 => ?_)
  refine zx_eq (ws' := [cO a0 6 [.ref z1, .null, .null, .int 0], cI K z1 n (fun _ => 0), cI K z2 n (fun _ => 0)]) (lv' := [(0, .ref a0), (1, .int (nI n))]) rfl rfl rfl ?_
  refine zp_Slo_15 (pc := 15) hF hnm 0 rfl (Nat.le_of_ble_eq_true rfl) d_Slo_init_15 (ws' := [cO a0 6 [.ref z1, .ref z2, .null, .int 0], cI K z1 n (fun _ => 0), cI K z2 n (fun _ => 0)]) rfl ?_
  refine zx_aload_n (pc := 18) hF d_Slo_init_18 rfl 0 rfl ?_
  refine zx_iload_n (pc := 19) hF d_Slo_init_19 rfl 1 rfl ?_
  refine zx_newaZ (pc := 20) hF (n := n) 10 (by omega) (by omega) (Nat.le_of_ble_eq_true rfl) (Nat.le_of_ble_eq_true rfl) d_Slo_init_20 (fun z3 => ?_)
  refine zx_eq (ws' := [cO a0 6 [.ref z1, .ref z2, .null, .int 0], cI K z1 n (fun _ => 0), cI K z2 n (fun _ => 0), cZ K z3 n (fun _ => 0)]) (lv' := [(0, .ref a0), (1, .int (nI n))]) rfl rfl rfl ?_
  refine zp_Slo_18 (pc := 22) hF hnm 0 rfl (Nat.le_of_ble_eq_true rfl) d_Slo_init_22 (ws' := [cO a0 6 [.ref z1, .ref z2, .ref z3, .int 0], cI K z1 n (fun _ => 0), cI K z2 n (fun _ => 0), cZ K z3 n (fun _ => 0)]) rfl ?_
  exact zx_nret (pc := 25) hF hr hlk (fun i => match i with | 0 => z1 | 1 => z2 | _ => z3) rfl d_Slo_init_25
set_option maxRecDepth 20000 in
theorem M_Wir_init (l : Launch) (D : va_G) (K : Nat → ClassId) (M : List (ClassId × FieldType)) (a0 : Nat) (sz : Nat) : zM l y_Wir_init (zT y_Wir_init b_Wir_init 1 none) (zRc 1 20 1 16) 1 16 D K M [.ref a0] [cO a0 10 [.null]] sz (zQn D K M (fun u => [cO a0 10 [.ref (u 0)]] ++ [cI K (u 0) 16 (fun _ => 0)])) := by
  refine zx_head (by decide) (Nat.le_of_ble_eq_true rfl) ?_
  intro _ _ _ _ _ _ _ _ _ hF hr hlk hnm
  refine zx_aload_n (pc := 0) hF d_Wir_init_0 rfl 0 rfl ?_
  refine zx_oi (pc := 1) hF wm_Wir_3 (Nat.le_of_ble_eq_true rfl) (Nat.le_of_ble_eq_true rfl) d_Wir_init_1 ?_
  refine zx_aload_n (pc := 4) hF d_Wir_init_4 rfl 0 rfl ?_
  refine zx_bipush (pc := 5) hF d_Wir_init_5 k_b16 ?_
  refine zx_newaI (pc := 7) hF (n := 16) 16 (by omega) (by omega) (Nat.le_of_ble_eq_true rfl) (Nat.le_of_ble_eq_true rfl) d_Wir_init_7 (fun z1 => ?_)
  refine zx_eq (ws' := [cO a0 10 [.null], cI K z1 16 (fun _ => 0)]) (lv' := [(0, .ref a0)]) rfl rfl rfl ?_
  refine zp_Wir_11 (pc := 9) hF hnm 0 rfl (Nat.le_of_ble_eq_true rfl) d_Wir_init_9 (ws' := [cO a0 10 [.ref z1], cI K z1 16 (fun _ => 0)]) rfl ?_
  exact zx_nret (pc := 12) hF hr hlk (fun i => match i with  | _ => z1) rfl d_Wir_init_12
set_option maxRecDepth 20000 in
theorem M_Wat_init (l : Launch) (D : va_G) (K : Nat → ClassId) (M : List (ClassId × FieldType)) (a0 : Nat) (n : Nat) (hn : n ≤ 8) (sz : Nat) : zM l y_Wat_init (zT y_Wat_init b_Wat_init 3 none) (zRc 1 20 2 16) 2 16 D K M [.ref a0, .int (nI n)] [cO a0 9 [.null, .null]] sz (zQn D K M (fun u => [cO a0 9 [.ref (u 0), .ref (u 1)]] ++ [cZ K (u 0) n (f_fill n 0 1 (fun _ => 0)), cI K (u 1) n (fun _ => 0)])) := by
  refine zx_head (by decide) (Nat.le_of_ble_eq_true rfl) ?_
  intro _ _ _ _ _ _ _ _ _ hF hr hlk hnm
  refine zx_aload_n (pc := 0) hF d_Wat_init_0 rfl 0 rfl ?_
  refine zx_oi (pc := 1) hF wm_Wat_1 (Nat.le_of_ble_eq_true rfl) (Nat.le_of_ble_eq_true rfl) d_Wat_init_1 ?_
  refine zx_aload_n (pc := 4) hF d_Wat_init_4 rfl 0 rfl ?_
  refine zx_iload_n (pc := 5) hF d_Wat_init_5 rfl 1 rfl ?_
  refine zx_newaZ (pc := 6) hF (n := n) 8 (by omega) (by omega) (Nat.le_of_ble_eq_true rfl) (Nat.le_of_ble_eq_true rfl) d_Wat_init_6 (fun z1 => ?_)
  refine zx_eq (ws' := [cO a0 9 [.null, .null], cZ K z1 n (fun _ => 0)]) (lv' := [(0, .ref a0), (1, .int (nI n))]) rfl rfl rfl ?_
  refine zp_Wat_7 (pc := 8) hF hnm 0 rfl (Nat.le_of_ble_eq_true rfl) d_Wat_init_8 (ws' := [cO a0 9 [.ref z1, .null], cZ K z1 n (fun _ => 0)]) rfl ?_
  refine zx_aload_n (pc := 11) hF d_Wat_init_11 rfl 0 rfl ?_
  refine zx_iload_n (pc := 12) hF d_Wat_init_12 rfl 1 rfl ?_
  refine zx_newaI (pc := 13) hF (n := n) 8 (by omega) (by omega) (Nat.le_of_ble_eq_true rfl) (Nat.le_of_ble_eq_true rfl) d_Wat_init_13 (fun z2 => ?_)
  refine zx_eq (ws' := [cO a0 9 [.ref z1, .null], cZ K z1 n (fun _ => 0), cI K z2 n (fun _ => 0)]) (lv' := [(0, .ref a0), (1, .int (nI n))]) rfl rfl rfl ?_
  refine zp_Wat_13 (pc := 15) hF hnm 0 rfl (Nat.le_of_ble_eq_true rfl) d_Wat_init_15 (ws' := [cO a0 9 [.ref z1, .ref z2], cZ K z1 n (fun _ => 0), cI K z2 n (fun _ => 0)]) rfl ?_
  refine zx_iconst (pc := 18) hF d_Wat_init_18 k_i0 ?_
  refine zx_istore_n (pc := 19) hF (lv' := [(2, .int 0), (0, .ref a0), (1, .int (nI n))]) d_Wat_init_19 rfl (by decide) rfl ?_
  refine zx_lv [1, 2, 0] (lv' := [(0, .ref a0), (1, .int (nI n)), (2, .int 0)]) rfl ?_
  refine zx_loop (pc := 20) (σ := Nat × (Nat → Int32)) (fun k zv => (zv.1 + k = n) ∧ (f_fill k zv.1 1 zv.2 = f_fill n 0 1 (fun _ => 0))) (fun zv => [cO a0 9 [.ref z1, .ref z2], cZ K z1 n zv.2, cI K z2 n (fun _ => 0)]) (fun zv => [(0, .ref a0), (1, .int (nI n)), (2, .int (nI zv.1))]) n (0, fun _ => 0) ⟨by first | omega | (dsimp only; omega) | dsimp only, rfl⟩ rfl rfl ?_
  intro k zv hI ih
  obtain ⟨j, f'⟩ := zv
  obtain ⟨hk, hX⟩ := hI
  replace hk : j + k = n := hk
  replace hX : f_fill k j 1 f' = f_fill n 0 1 (fun _ => 0) := hX
  refine zx_eq (ws' := [cO a0 9 [.ref z1, .ref z2], cZ K z1 n f', cI K z2 n (fun _ => 0)]) (lv' := [(0, .ref a0), (1, .int (nI n)), (2, .int (nI j))]) rfl rfl rfl ?_
  refine zx_iload_n (pc := 20) hF d_Wat_init_20 rfl 2 rfl ?_
  refine zx_iload_n (pc := 21) hF d_Wat_init_21 rfl 1 rfl ?_
  refine zx_icmp_ge (pc := 22) hF d_Wat_init_22 (tgt := 38) rfl (fun h22 => ?_) (fun h22 => ?_)
  · replace h22 : n ≤ j := (nI_leI (a := n) (b := j) (by omega) (by omega)).mp h22
    exact zx_nret (pc := 38) hF hr hlk (fun i => match i with | 0 => z1 | _ => z2) (by obtain rfl : k = 0 := (by omega); rw [← hX]; rfl) d_Wat_init_38
  · replace h22 : ¬ n ≤ j := fun z => h22 ((nI_leI (a := n) (b := j) (by omega) (by omega)).mpr z)
    refine zx_aload_n (pc := 25) hF d_Wat_init_25 rfl 0 rfl ?_
    refine zg_Wat_7 (pc := 26) hF 0 rfl rfl d_Wat_init_26 ?_
    refine zx_iload_n (pc := 29) hF d_Wat_init_29 rfl 2 rfl ?_
    refine zx_iconst (pc := 30) hF d_Wat_init_30 k_i1 ?_
    refine zx_zastn (pc := 31) hF (i := j) 1 rfl (by omega) (by omega) rfl d_Wat_init_31 (ws' := [cO a0 9 [.ref z1, .ref z2], cZ K z1 n (upd f' j 1), cI K z2 n (fun _ => 0)]) rfl ?_
    refine zx_iinc (pc := 32) hF (v := nI (j + 1)) (lv' := [(2, .int (nI (j + 1))), (0, .ref a0), (1, .int (nI n))]) d_Wat_init_32 2 rfl (zinc j) (by decide) rfl ?_
    refine zx_goto (pc := 35) hF d_Wat_init_35 (tgt := 20) rfl ?_
    refine zx_lv [1, 2, 0] (lv' := [(0, .ref a0), (1, .int (nI n)), (2, .int (nI (j + 1)))]) rfl ?_
    exact ih (k - 1) (j + 1, upd f' j 1) (by omega) ⟨by first | omega | (dsimp only; omega) | dsimp only, by obtain ⟨k', rfl⟩ : ∃ k', k = k' + 1 := ⟨k - 1, by omega⟩; exact hX⟩
set_option maxRecDepth 20000 in
theorem M_Tab_init (l : Launch) (D : va_G) (K : Nat → ClassId) (M : List (ClassId × FieldType)) (a0 : Nat) (n : Nat) (m : Nat) (l0 : Nat) (l1 : Nat) (l2 : Nat) (hn : n ≤ 8) (hm : m ≤ 101) (sz : Nat) : zM l y_Tab_init (zT y_Tab_init b_Tab_init 3 none) (zRc 1 20 3 210) 3 210 D K M [.ref a0, .int (nI n), .ref l0] [cO a0 8 [.int 0, .null, .null, .null, .null], cO l0 4 [.int (nI m), .ref l1, .ref l2]] sz (zQn D K M (fun u => [cO a0 8 [.int 0, .ref l0, .ref (u 0), .ref (u 1), .ref (u 2)], cO l0 4 [.int (nI m), .ref l1, .ref l2]] ++ [cI K (u 0) m (fun _ => 0), cI K (u 1) m (fun _ => 0), cI K (u 2) n (fun _ => 0)])) := by
  refine zx_head (by decide) (Nat.le_of_ble_eq_true rfl) ?_
  intro _ _ _ _ _ _ _ _ _ hF hr hlk hnm
  refine zx_aload_n (pc := 0) hF d_Tab_init_0 rfl 0 rfl ?_
  refine zx_oi (pc := 1) hF wm_Tab_3 (Nat.le_of_ble_eq_true rfl) (Nat.le_of_ble_eq_true rfl) d_Tab_init_1 ?_
  refine zx_aload_n (pc := 4) hF d_Tab_init_4 rfl 0 rfl ?_
  refine zx_aload_n (pc := 5) hF d_Tab_init_5 rfl 2 rfl ?_
  refine zp_Tab_9 (pc := 6) hF hnm 0 rfl (Nat.le_of_ble_eq_true rfl) d_Tab_init_6 (ws' := [cO a0 8 [.int 0, .ref l0, .null, .null, .null], cO l0 4 [.int (nI m), .ref l1, .ref l2]]) rfl ?_
  refine zx_aload_n (pc := 9) hF d_Tab_init_9 rfl 0 rfl ?_
  refine zx_aload_n (pc := 10) hF d_Tab_init_10 rfl 2 rfl ?_
  refine zg_Tab_15 (pc := 11) hF 1 rfl rfl d_Tab_init_11 ?_
  refine zx_newaI (pc := 14) hF (n := m) 101 (by omega) (by omega) (Nat.le_of_ble_eq_true rfl) (Nat.le_of_ble_eq_true rfl) d_Tab_init_14 (fun z1 => ?_)
  refine zx_eq (ws' := [cO a0 8 [.int 0, .ref l0, .null, .null, .null], cO l0 4 [.int (nI m), .ref l1, .ref l2], cI K z1 m (fun _ => 0)]) (lv' := [(0, .ref a0), (1, .int (nI n)), (2, .ref l0)]) rfl rfl rfl ?_
  refine zp_Tab_21 (pc := 16) hF hnm 0 rfl (Nat.le_of_ble_eq_true rfl) d_Tab_init_16 (ws' := [cO a0 8 [.int 0, .ref l0, .ref z1, .null, .null], cO l0 4 [.int (nI m), .ref l1, .ref l2], cI K z1 m (fun _ => 0)]) rfl ?_
  refine zx_aload_n (pc := 19) hF d_Tab_init_19 rfl 0 rfl ?_
  refine zx_aload_n (pc := 20) hF d_Tab_init_20 rfl 2 rfl ?_
  refine zg_Tab_15 (pc := 21) hF 1 rfl rfl d_Tab_init_21 ?_
  refine zx_newaI (pc := 24) hF (n := m) 101 (by omega) (by omega) (Nat.le_of_ble_eq_true rfl) (Nat.le_of_ble_eq_true rfl) d_Tab_init_24 (fun z2 => ?_)
  refine zx_eq (ws' := [cO a0 8 [.int 0, .ref l0, .ref z1, .null, .null], cO l0 4 [.int (nI m), .ref l1, .ref l2], cI K z1 m (fun _ => 0), cI K z2 m (fun _ => 0)]) (lv' := [(0, .ref a0), (1, .int (nI n)), (2, .ref l0)]) rfl rfl rfl ?_
  refine zp_Tab_25 (pc := 26) hF hnm 0 rfl (Nat.le_of_ble_eq_true rfl) d_Tab_init_26 (ws' := [cO a0 8 [.int 0, .ref l0, .ref z1, .ref z2, .null], cO l0 4 [.int (nI m), .ref l1, .ref l2], cI K z1 m (fun _ => 0), cI K z2 m (fun _ => 0)]) rfl ?_
  refine zx_aload_n (pc := 29) hF d_Tab_init_29 rfl 0 rfl ?_
  refine zx_iload_n (pc := 30) hF d_Tab_init_30 rfl 1 rfl ?_
  refine zx_newaI (pc := 31) hF (n := n) 8 (by omega) (by omega) (Nat.le_of_ble_eq_true rfl) (Nat.le_of_ble_eq_true rfl) d_Tab_init_31 (fun z3 => ?_)
  refine zx_eq (ws' := [cO a0 8 [.int 0, .ref l0, .ref z1, .ref z2, .null], cO l0 4 [.int (nI m), .ref l1, .ref l2], cI K z1 m (fun _ => 0), cI K z2 m (fun _ => 0), cI K z3 n (fun _ => 0)]) (lv' := [(0, .ref a0), (1, .int (nI n)), (2, .ref l0)]) rfl rfl rfl ?_
  refine zp_Tab_28 (pc := 33) hF hnm 0 rfl (Nat.le_of_ble_eq_true rfl) d_Tab_init_33 (ws' := [cO a0 8 [.int 0, .ref l0, .ref z1, .ref z2, .ref z3], cO l0 4 [.int (nI m), .ref l1, .ref l2], cI K z1 m (fun _ => 0), cI K z2 m (fun _ => 0), cI K z3 n (fun _ => 0)]) rfl ?_
  exact zx_nret (pc := 36) hF hr hlk (fun i => match i with | 0 => z1 | 1 => z2 | _ => z3) rfl d_Tab_init_36
set_option maxRecDepth 20000 in
theorem M_Lst_init (l : Launch) (D : va_G) (K : Nat → ClassId) (M : List (ClassId × FieldType)) (a0 : Nat) (n : Nat) (m : Nat) (dg0 : Nat) (k0 : Int64) (k1 : Int64) (dv : f_4) (hn : n ≤ 8) (hm : 7 ≤ m ∧ m ≤ 101) (sz : Nat) : zM l y_Lst_init (zT y_Lst_init b_Lst_init 7 none) (zRc 4 87 2 16) 2 16 D K M [.ref a0, .int (nI n), .int (nI m), .ref dg0] [cO a0 4 [.int 0, .null, .null], cO dg0 2 [.long k0, .long k1, .long dv.1, .long dv.2.1, .long dv.2.2.1, .long dv.2.2.2]] sz (zQn D K M (fun u => [cO a0 4 [.int (nI m), .ref (u 0), .ref (u 1)], cO dg0 2 [.long k0, .long k1, .long (f_lst k0 k1 m n 0 (fun _ => 0, fun _ => 0, dv)).2.2.1, .long (f_lst k0 k1 m n 0 (fun _ => 0, fun _ => 0, dv)).2.2.2.1, .long (f_lst k0 k1 m n 0 (fun _ => 0, fun _ => 0, dv)).2.2.2.2.1, .long (f_lst k0 k1 m n 0 (fun _ => 0, fun _ => 0, dv)).2.2.2.2.2]] ++ [cI K (u 0) n (f_lst k0 k1 m n 0 (fun _ => 0, fun _ => 0, dv)).1, cI K (u 1) n (f_lst k0 k1 m n 0 (fun _ => 0, fun _ => 0, dv)).2.1])) := by
  refine zx_head (by decide) (Nat.le_of_ble_eq_true rfl) ?_
  intro _ _ _ _ _ _ _ _ _ hF hr hlk hnm
  refine zx_aload_n (pc := 0) hF d_Lst_init_0 rfl 0 rfl ?_
  refine zx_oi (pc := 1) hF wm_Lst_3 (Nat.le_of_ble_eq_true rfl) (Nat.le_of_ble_eq_true rfl) d_Lst_init_1 ?_
  refine zx_aload_n (pc := 4) hF d_Lst_init_4 rfl 0 rfl ?_
  refine zx_iload_n (pc := 5) hF d_Lst_init_5 rfl 2 rfl ?_
  refine zp_Lst_9 (pc := 6) hF hnm 0 rfl (Nat.le_of_ble_eq_true rfl) d_Lst_init_6 (ws' := [cO a0 4 [.int (nI m), .null, .null], cO dg0 2 [.long k0, .long k1, .long dv.1, .long dv.2.1, .long dv.2.2.1, .long dv.2.2.2]]) rfl ?_
  refine zx_aload_n (pc := 9) hF d_Lst_init_9 rfl 0 rfl ?_
  refine zx_iload_n (pc := 10) hF d_Lst_init_10 rfl 1 rfl ?_
  refine zx_newaI (pc := 11) hF (n := n) 8 (by omega) (by omega) (Nat.le_of_ble_eq_true rfl) (Nat.le_of_ble_eq_true rfl) d_Lst_init_11 (fun z1 => ?_)
  refine zx_eq (ws' := [cO a0 4 [.int (nI m), .null, .null], cO dg0 2 [.long k0, .long k1, .long dv.1, .long dv.2.1, .long dv.2.2.1, .long dv.2.2.2], cI K z1 n (fun _ => 0)]) (lv' := [(0, .ref a0), (1, .int (nI n)), (2, .int (nI m)), (3, .ref dg0)]) rfl rfl rfl ?_
  refine zp_Lst_15 (pc := 13) hF hnm 0 rfl (Nat.le_of_ble_eq_true rfl) d_Lst_init_13 (ws' := [cO a0 4 [.int (nI m), .ref z1, .null], cO dg0 2 [.long k0, .long k1, .long dv.1, .long dv.2.1, .long dv.2.2.1, .long dv.2.2.2], cI K z1 n (fun _ => 0)]) rfl ?_
  refine zx_aload_n (pc := 16) hF d_Lst_init_16 rfl 0 rfl ?_
  refine zx_iload_n (pc := 17) hF d_Lst_init_17 rfl 1 rfl ?_
  refine zx_newaI (pc := 18) hF (n := n) 8 (by omega) (by omega) (Nat.le_of_ble_eq_true rfl) (Nat.le_of_ble_eq_true rfl) d_Lst_init_18 (fun z2 => ?_)
  refine zx_eq (ws' := [cO a0 4 [.int (nI m), .ref z1, .null], cO dg0 2 [.long k0, .long k1, .long dv.1, .long dv.2.1, .long dv.2.2.1, .long dv.2.2.2], cI K z1 n (fun _ => 0), cI K z2 n (fun _ => 0)]) (lv' := [(0, .ref a0), (1, .int (nI n)), (2, .int (nI m)), (3, .ref dg0)]) rfl rfl rfl ?_
  refine zp_Lst_19 (pc := 20) hF hnm 0 rfl (Nat.le_of_ble_eq_true rfl) d_Lst_init_20 (ws' := [cO a0 4 [.int (nI m), .ref z1, .ref z2], cO dg0 2 [.long k0, .long k1, .long dv.1, .long dv.2.1, .long dv.2.2.1, .long dv.2.2.2], cI K z1 n (fun _ => 0), cI K z2 n (fun _ => 0)]) rfl ?_
  refine zx_iconst (pc := 23) hF d_Lst_init_23 k_i0 ?_
  refine zx_istore (pc := 24) hF (lv' := [(4, .int 0), (0, .ref a0), (1, .int (nI n)), (2, .int (nI m)), (3, .ref dg0)]) d_Lst_init_24 (by decide) rfl ?_
  refine zx_lv [1, 2, 3, 4, 0] (lv' := [(0, .ref a0), (1, .int (nI n)), (2, .int (nI m)), (3, .ref dg0), (4, .int 0)]) rfl ?_
  refine zx_loop (pc := 26) (σ := Nat × (Nat → Int32) × (Nat → Int32) × f_4) (fun k zv => (zv.1 + k = n) ∧ (f_lst k0 k1 m k zv.1 (zv.2.1, zv.2.2.1, zv.2.2.2) = f_lst k0 k1 m n 0 (fun _ => 0, fun _ => 0, dv))) (fun zv => [cO a0 4 [.int (nI m), .ref z1, .ref z2], cO dg0 2 [.long k0, .long k1, .long zv.2.2.2.1, .long zv.2.2.2.2.1, .long zv.2.2.2.2.2.1, .long zv.2.2.2.2.2.2], cI K z1 n zv.2.1, cI K z2 n zv.2.2.1]) (fun zv => [(0, .ref a0), (1, .int (nI n)), (2, .int (nI m)), (3, .ref dg0), (4, .int (nI zv.1))]) n (0, fun _ => 0, fun _ => 0, dv) ⟨by first | omega | (dsimp only; omega) | dsimp only, rfl⟩ rfl rfl ?_
  intro k zv hI ih
  obtain ⟨j, f', g', dv'⟩ := zv
  obtain ⟨hk, hX⟩ := hI
  replace hk : j + k = n := hk
  replace hX : f_lst k0 k1 m k j (f', g', dv') = f_lst k0 k1 m n 0 (fun _ => 0, fun _ => 0, dv) := hX
  refine zx_eq (ws' := [cO a0 4 [.int (nI m), .ref z1, .ref z2], cO dg0 2 [.long k0, .long k1, .long dv'.1, .long dv'.2.1, .long dv'.2.2.1, .long dv'.2.2.2], cI K z1 n f', cI K z2 n g']) (lv' := [(0, .ref a0), (1, .int (nI n)), (2, .int (nI m)), (3, .ref dg0), (4, .int (nI j))]) rfl rfl rfl ?_
  refine zx_iload (pc := 26) hF d_Lst_init_26 4 rfl ?_
  refine zx_iload_n (pc := 28) hF d_Lst_init_28 rfl 1 rfl ?_
  refine zx_icmp_ge (pc := 29) hF d_Lst_init_29 (tgt := 84) rfl (fun h29 => ?_) (fun h29 => ?_)
  · replace h29 : n ≤ j := (nI_leI (a := n) (b := j) (by omega) (by omega)).mp h29
    exact zx_nret (pc := 84) hF hr hlk (fun i => match i with | 0 => z1 | _ => z2) (by obtain rfl : k = 0 := (by omega); rw [← hX]; rfl) d_Lst_init_84
  · replace h29 : ¬ n ≤ j := fun z => h29 ((nI_leI (a := n) (b := j) (by omega) (by omega)).mpr z)
    refine zx_aload_n (pc := 32) hF d_Lst_init_32 rfl 3 rfl ?_
    refine zx_iload (pc := 33) hF d_Lst_init_33 4 rfl ?_
    refine zx_i2l (pc := 35) hF (v := (Int32.toInt64 (nI j))) d_Lst_init_35 rfl ?_
    refine zx_Vl (pc := 36) hF (As := [.long (Int32.toInt64 (nI j))]) (rest := []) (fun sz => M_Dig_digestOf l D K M dg0 k0 k1 dv'.1 dv'.2.1 dv'.2.2.1 dv'.2.2.2 (Int32.toInt64 (nI j))  sz) [1] rfl (by decide) (as := [dg0]) rfl rfl (ws' := [cO a0 4 [.int (nI m), .ref z1, .ref z2], cO dg0 2 [.long k0, .long k1, .long (f_end k0 k1 (Int32.toInt64 (nI j))).1, .long (f_end k0 k1 (Int32.toInt64 (nI j))).2.1, .long (f_end k0 k1 (Int32.toInt64 (nI j))).2.2.1, .long (f_end k0 k1 (Int32.toInt64 (nI j))).2.2.2], cI K z1 n f', cI K z2 n g']) rfl 0 2 rfl rfl rfl (cw_Lst_22 hF.2.2.2.2.1 rfl rfl ⟨by decide, by decide⟩) rfl rfl (Nat.le_of_ble_eq_true rfl) d_Lst_init_36 ⟨Nat.le_of_ble_eq_true rfl, Nat.le_of_ble_eq_true rfl⟩ ?_
    refine zx_lstore (pc := 39) hF (lv' := [(5, .long (f_dig k0 k1 (Int32.toInt64 (nI j)))), (0, .ref a0), (1, .int (nI n)), (2, .int (nI m)), (3, .ref dg0), (4, .int (nI j))]) d_Lst_init_39 (by decide) rfl ?_
    refine zx_aload_n (pc := 41) hF d_Lst_init_41 rfl 1 rfl ?_
    refine zg_Lst_15 (pc := 42) hF 0 rfl rfl d_Lst_init_42 ?_
    refine zx_iload (pc := 45) hF d_Lst_init_45 5 rfl ?_
    refine zx_lload (pc := 47) hF d_Lst_init_47 0 rfl ?_
    refine zx_bipush (pc := 49) hF d_Lst_init_49 k_b32 ?_
    refine zx_lushr (pc := 51) hF (v := (zlushr (f_dig k0 k1 (Int32.toInt64 (nI j))) 32)) d_Lst_init_51 rfl ?_
    refine zx_iload_n (pc := 52) hF d_Lst_init_52 rfl 3 rfl ?_
    refine zx_i2l (pc := 53) hF (v := (Int32.toInt64 (nI m))) d_Lst_init_53 rfl ?_
    refine zx_lrem (pc := 54) hF d_Lst_init_54 (g_nz (by omega) (by omega)) ?_
    refine zx_l2i (pc := 55) hF (v := (Int64.toInt32 ((zlushr (f_dig k0 k1 (Int32.toInt64 (nI j))) 32) - (zlushr (f_dig k0 k1 (Int32.toInt64 (nI j))) 32) / (Int32.toInt64 (nI m)) * (Int32.toInt64 (nI m))))) d_Lst_init_55 rfl ?_
    refine zx_iastn (pc := 56) hF (i := j) 2 rfl (by omega) (by omega) d_Lst_init_56 (ws' := [cO a0 4 [.int (nI m), .ref z1, .ref z2], cO dg0 2 [.long k0, .long k1, .long (f_end k0 k1 (Int32.toInt64 (nI j))).1, .long (f_end k0 k1 (Int32.toInt64 (nI j))).2.1, .long (f_end k0 k1 (Int32.toInt64 (nI j))).2.2.1, .long (f_end k0 k1 (Int32.toInt64 (nI j))).2.2.2], cI K z1 n (upd f' j (Int64.toInt32 ((zlushr (f_dig k0 k1 (Int32.toInt64 (nI j))) 32) - (zlushr (f_dig k0 k1 (Int32.toInt64 (nI j))) 32) / (Int32.toInt64 (nI m)) * (Int32.toInt64 (nI m))))), cI K z2 n g']) rfl ?_
    refine zx_aload_n (pc := 57) hF d_Lst_init_57 rfl 1 rfl ?_
    refine zg_Lst_19 (pc := 58) hF 0 rfl rfl d_Lst_init_58 ?_
    refine zx_iload (pc := 61) hF d_Lst_init_61 5 rfl ?_
    refine zx_lconst (pc := 63) hF d_Lst_init_63 k_l1 ?_
    refine zx_lload (pc := 64) hF d_Lst_init_64 0 rfl ?_
    refine zx_ldc2 (pc := 66) hF wk_Lst_28 d_Lst_init_66 ?_
    refine zx_land (pc := 69) hF d_Lst_init_69 ?_
    refine zx_iload_n (pc := 70) hF d_Lst_init_70 rfl 3 rfl ?_
    refine zx_iconst (pc := 71) hF d_Lst_init_71 k_i1 ?_
    refine zx_isub (pc := 72) hF d_Lst_init_72 ?_
    refine zx_topi (nI (m - 1)) (pk_sub (a := m) (b := 1) (by omega)) ?_
    refine zx_i2l (pc := 73) hF (v := (Int32.toInt64 (nI (m - 1)))) d_Lst_init_73 rfl ?_
    refine zx_lrem (pc := 74) hF d_Lst_init_74 (g_nz (by omega) (by omega)) ?_
    refine zx_ladd (pc := 75) hF d_Lst_init_75 ?_
    refine zx_l2i (pc := 76) hF (v := (Int64.toInt32 (1 + (((f_dig k0 k1 (Int32.toInt64 (nI j))) &&& 4294967295) - ((f_dig k0 k1 (Int32.toInt64 (nI j))) &&& 4294967295) / (Int32.toInt64 (nI (m - 1))) * (Int32.toInt64 (nI (m - 1))))))) d_Lst_init_76 rfl ?_
    refine zx_iastn (pc := 77) hF (i := j) 3 rfl (by omega) (by omega) d_Lst_init_77 (ws' := [cO a0 4 [.int (nI m), .ref z1, .ref z2], cO dg0 2 [.long k0, .long k1, .long (f_end k0 k1 (Int32.toInt64 (nI j))).1, .long (f_end k0 k1 (Int32.toInt64 (nI j))).2.1, .long (f_end k0 k1 (Int32.toInt64 (nI j))).2.2.1, .long (f_end k0 k1 (Int32.toInt64 (nI j))).2.2.2], cI K z1 n (upd f' j (Int64.toInt32 ((zlushr (f_dig k0 k1 (Int32.toInt64 (nI j))) 32) - (zlushr (f_dig k0 k1 (Int32.toInt64 (nI j))) 32) / (Int32.toInt64 (nI m)) * (Int32.toInt64 (nI m))))), cI K z2 n (upd g' j (Int64.toInt32 (1 + (((f_dig k0 k1 (Int32.toInt64 (nI j))) &&& 4294967295) - ((f_dig k0 k1 (Int32.toInt64 (nI j))) &&& 4294967295) / (Int32.toInt64 (nI (m - 1))) * (Int32.toInt64 (nI (m - 1)))))))]) rfl ?_
    refine zx_iinc (pc := 78) hF (v := nI (j + 1)) (lv' := [(4, .int (nI (j + 1))), (5, .long (f_dig k0 k1 (Int32.toInt64 (nI j)))), (0, .ref a0), (1, .int (nI n)), (2, .int (nI m)), (3, .ref dg0)]) d_Lst_init_78 5 rfl (zinc j) (by decide) rfl ?_
    refine zx_goto (pc := 81) hF d_Lst_init_81 (tgt := 26) rfl ?_
    refine zx_lv [2, 3, 4, 5, 0] (lv' := [(0, .ref a0), (1, .int (nI n)), (2, .int (nI m)), (3, .ref dg0), (4, .int (nI (j + 1)))]) rfl ?_
    exact ih (k - 1) (j + 1, upd f' j (Int64.toInt32 ((zlushr (f_dig k0 k1 (Int32.toInt64 (nI j))) 32) - (zlushr (f_dig k0 k1 (Int32.toInt64 (nI j))) 32) / (Int32.toInt64 (nI m)) * (Int32.toInt64 (nI m)))), upd g' j (Int64.toInt32 (1 + (((f_dig k0 k1 (Int32.toInt64 (nI j))) &&& 4294967295) - ((f_dig k0 k1 (Int32.toInt64 (nI j))) &&& 4294967295) / (Int32.toInt64 (nI (m - 1))) * (Int32.toInt64 (nI (m - 1)))))), f_end k0 k1 (Int32.toInt64 (nI j))) (by omega) ⟨by first | omega | (dsimp only; omega) | dsimp only, by obtain ⟨k', rfl⟩ : ∃ k', k = k' + 1 := ⟨k - 1, by omega⟩; exact hX⟩
set_option maxRecDepth 20000 in
theorem M_Ent_init (l : Launch) (D : va_G) (K : Nat → ClassId) (M : List (ClassId × FieldType)) (a0 : Nat) (sz : Nat) : zM l y_Ent_init (zT y_Ent_init b_Ent_init 1 none) (zRc 2 41 7 58) 7 58 D K M [.ref a0] [cO a0 3 [.null, .null, .null, .null]] sz (zQn D K M (fun u => [cO a0 3 [.ref (u 0), .ref (u 4), .ref (u 5), .ref (u 6)]] ++ [cO (u 0) 6 [.ref (u 1), .ref (u 2), .ref (u 3), .int 0], cI K (u 1) 8 (fun _ => 0), cI K (u 2) 8 (fun _ => 0), cZ K (u 3) 8 (fun _ => 0), cI K (u 4) 8 (fun _ => 0), cI K (u 5) 8 (fun _ => 0), cI K (u 6) 8 (fun _ => 0)])) := by
  refine zx_head (by decide) (Nat.le_of_ble_eq_true rfl) ?_
  intro _ _ _ _ _ _ _ _ _ hF hr hlk hnm
  refine zx_aload_n (pc := 0) hF d_Ent_init_0 rfl 0 rfl ?_
  refine zx_oi (pc := 1) hF wm_Ent_3 (Nat.le_of_ble_eq_true rfl) (Nat.le_of_ble_eq_true rfl) d_Ent_init_1 ?_
  refine zx_aload_n (pc := 4) hF d_Ent_init_4 rfl 0 rfl ?_
  refine zx_new (pc := 5) hF (ci := 6) (fs := [.null, .null, .null, .int 0]) wu_Slo t_Slo t_Slo_ok wc_Ent_9 wn_Slo wz_Slo rfl hfs_Slo (Nat.le_of_ble_eq_true rfl) (Nat.le_of_ble_eq_true rfl) d_Ent_init_5 (fun z1 => ?_)
  refine zx_eq (ws' := [cO a0 3 [.null, .null, .null, .null], cO z1 6 [.null, .null, .null, .int 0]]) (lv' := [(0, .ref a0)]) rfl rfl rfl ?_
  refine zx_dup (pc := 8) hF d_Ent_init_8 rfl ?_
  refine zx_bipush (pc := 9) hF d_Ent_init_9 k_b8 ?_
  refine zx_Iv (pc := 11) hF (As := [.int 8]) (rest := [.ref z1, .ref a0]) (w1 := fun u => [cO z1 6 [.ref (u 0), .ref (u 1), .ref (u 2), .int 0]]) (wn := fun u => [cI K (u 0) 8 (fun _ => 0), cI K (u 1) 8 (fun _ => 0), cZ K (u 2) 8 (fun _ => 0)]) (fun sz => M_Slo_init l D K M z1 8 (by first | assumption | omega) sz) [1] rfl (by decide) (as := [z1]) (fun _ => rfl) rfl (ci_Ent_13 hF.2.2.2.2.1 rfl rfl ⟨by decide, by decide⟩) rfl rfl (Nat.le_of_ble_eq_true rfl) d_Ent_init_11 ⟨Nat.le_of_ble_eq_true rfl, Nat.le_of_ble_eq_true rfl⟩ (fun u2 => ?_)
  refine zx_eq (ws' := [cO a0 3 [.null, .null, .null, .null], cO z1 6 [.ref (u2 0), .ref (u2 1), .ref (u2 2), .int 0], cI K (u2 0) 8 (fun _ => 0), cI K (u2 1) 8 (fun _ => 0), cZ K (u2 2) 8 (fun _ => 0)]) (lv' := [(0, .ref a0)]) rfl rfl rfl ?_
  refine zp_Ent_16 (pc := 14) hF hnm 0 rfl (Nat.le_of_ble_eq_true rfl) d_Ent_init_14 (ws' := [cO a0 3 [.ref z1, .null, .null, .null], cO z1 6 [.ref (u2 0), .ref (u2 1), .ref (u2 2), .int 0], cI K (u2 0) 8 (fun _ => 0), cI K (u2 1) 8 (fun _ => 0), cZ K (u2 2) 8 (fun _ => 0)]) rfl ?_
  refine zx_aload_n (pc := 17) hF d_Ent_init_17 rfl 0 rfl ?_
  refine zx_bipush (pc := 18) hF d_Ent_init_18 k_b8 ?_
  refine zx_newaI (pc := 20) hF (n := 8) 8 (by omega) (by omega) (Nat.le_of_ble_eq_true rfl) (Nat.le_of_ble_eq_true rfl) d_Ent_init_20 (fun z3 => ?_)
  refine zx_eq (ws' := [cO a0 3 [.ref z1, .null, .null, .null], cO z1 6 [.ref (u2 0), .ref (u2 1), .ref (u2 2), .int 0], cI K (u2 0) 8 (fun _ => 0), cI K (u2 1) 8 (fun _ => 0), cZ K (u2 2) 8 (fun _ => 0), cI K z3 8 (fun _ => 0)]) (lv' := [(0, .ref a0)]) rfl rfl rfl ?_
  refine zp_Ent_20 (pc := 22) hF hnm 0 rfl (Nat.le_of_ble_eq_true rfl) d_Ent_init_22 (ws' := [cO a0 3 [.ref z1, .ref z3, .null, .null], cO z1 6 [.ref (u2 0), .ref (u2 1), .ref (u2 2), .int 0], cI K (u2 0) 8 (fun _ => 0), cI K (u2 1) 8 (fun _ => 0), cZ K (u2 2) 8 (fun _ => 0), cI K z3 8 (fun _ => 0)]) rfl ?_
  refine zx_aload_n (pc := 25) hF d_Ent_init_25 rfl 0 rfl ?_
  refine zx_bipush (pc := 26) hF d_Ent_init_26 k_b8 ?_
  refine zx_newaI (pc := 28) hF (n := 8) 8 (by omega) (by omega) (Nat.le_of_ble_eq_true rfl) (Nat.le_of_ble_eq_true rfl) d_Ent_init_28 (fun z4 => ?_)
  refine zx_eq (ws' := [cO a0 3 [.ref z1, .ref z3, .null, .null], cO z1 6 [.ref (u2 0), .ref (u2 1), .ref (u2 2), .int 0], cI K (u2 0) 8 (fun _ => 0), cI K (u2 1) 8 (fun _ => 0), cZ K (u2 2) 8 (fun _ => 0), cI K z3 8 (fun _ => 0), cI K z4 8 (fun _ => 0)]) (lv' := [(0, .ref a0)]) rfl rfl rfl ?_
  refine zp_Ent_24 (pc := 30) hF hnm 0 rfl (Nat.le_of_ble_eq_true rfl) d_Ent_init_30 (ws' := [cO a0 3 [.ref z1, .ref z3, .ref z4, .null], cO z1 6 [.ref (u2 0), .ref (u2 1), .ref (u2 2), .int 0], cI K (u2 0) 8 (fun _ => 0), cI K (u2 1) 8 (fun _ => 0), cZ K (u2 2) 8 (fun _ => 0), cI K z3 8 (fun _ => 0), cI K z4 8 (fun _ => 0)]) rfl ?_
  refine zx_aload_n (pc := 33) hF d_Ent_init_33 rfl 0 rfl ?_
  refine zx_bipush (pc := 34) hF d_Ent_init_34 k_b8 ?_
  refine zx_newaI (pc := 36) hF (n := 8) 8 (by omega) (by omega) (Nat.le_of_ble_eq_true rfl) (Nat.le_of_ble_eq_true rfl) d_Ent_init_36 (fun z5 => ?_)
  refine zx_eq (ws' := [cO a0 3 [.ref z1, .ref z3, .ref z4, .null], cO z1 6 [.ref (u2 0), .ref (u2 1), .ref (u2 2), .int 0], cI K (u2 0) 8 (fun _ => 0), cI K (u2 1) 8 (fun _ => 0), cZ K (u2 2) 8 (fun _ => 0), cI K z3 8 (fun _ => 0), cI K z4 8 (fun _ => 0), cI K z5 8 (fun _ => 0)]) (lv' := [(0, .ref a0)]) rfl rfl rfl ?_
  refine zp_Ent_27 (pc := 38) hF hnm 0 rfl (Nat.le_of_ble_eq_true rfl) d_Ent_init_38 (ws' := [cO a0 3 [.ref z1, .ref z3, .ref z4, .ref z5], cO z1 6 [.ref (u2 0), .ref (u2 1), .ref (u2 2), .int 0], cI K (u2 0) 8 (fun _ => 0), cI K (u2 1) 8 (fun _ => 0), cZ K (u2 2) 8 (fun _ => 0), cI K z3 8 (fun _ => 0), cI K z4 8 (fun _ => 0), cI K z5 8 (fun _ => 0)]) rfl ?_
  exact zx_nret (pc := 41) hF hr hlk (fun i => match i with | 0 => z1 | 1 => u2 0 | 2 => u2 1 | 3 => u2 2 | 4 => z3 | 5 => z4 | _ => z5) rfl d_Ent_init_41
set_option maxRecDepth 20000 in
theorem M_Srv_init (l : Launch) (D : va_G) (K : Nat → ClassId) (M : List (ClassId × FieldType)) (a0 : Nat) (sz : Nat) : zM l y_Srv_init (zT y_Srv_init b_Srv_init 1 none) (zRc 2 41 7 55) 7 55 D K M [.ref a0] [cO a0 5 [.null, .null, .int 0, .int 0, .null, .null]] sz (zQn D K M (fun u => [cO a0 5 [.ref (u 0), .ref (u 4), .int 1, .int 0, .ref (u 5), .ref (u 6)]] ++ [cO (u 0) 6 [.ref (u 1), .ref (u 2), .ref (u 3), .int 0], cI K (u 1) 10 (fun _ => 0), cI K (u 2) 10 (fun _ => 0), cZ K (u 3) 10 (fun _ => 0), cO (u 4) 7 [.int 0], cI K (u 5) 10 (fun _ => 0), cI K (u 6) 10 (fun _ => 0)])) := by
  refine zx_head (by decide) (Nat.le_of_ble_eq_true rfl) ?_
  intro _ _ _ _ _ _ _ _ _ hF hr hlk hnm
  refine zx_aload_n (pc := 0) hF d_Srv_init_0 rfl 0 rfl ?_
  refine zx_oi (pc := 1) hF wm_Srv_3 (Nat.le_of_ble_eq_true rfl) (Nat.le_of_ble_eq_true rfl) d_Srv_init_1 ?_
  refine zx_aload_n (pc := 4) hF d_Srv_init_4 rfl 0 rfl ?_
  refine zx_new (pc := 5) hF (ci := 6) (fs := [.null, .null, .null, .int 0]) wu_Slo t_Slo t_Slo_ok wc_Srv_9 wn_Slo wz_Slo rfl hfs_Slo (Nat.le_of_ble_eq_true rfl) (Nat.le_of_ble_eq_true rfl) d_Srv_init_5 (fun z1 => ?_)
  refine zx_eq (ws' := [cO a0 5 [.null, .null, .int 0, .int 0, .null, .null], cO z1 6 [.null, .null, .null, .int 0]]) (lv' := [(0, .ref a0)]) rfl rfl rfl ?_
  refine zx_dup (pc := 8) hF d_Srv_init_8 rfl ?_
  refine zx_bipush (pc := 9) hF d_Srv_init_9 k_b10 ?_
  refine zx_Iv (pc := 11) hF (As := [.int 10]) (rest := [.ref z1, .ref a0]) (w1 := fun u => [cO z1 6 [.ref (u 0), .ref (u 1), .ref (u 2), .int 0]]) (wn := fun u => [cI K (u 0) 10 (fun _ => 0), cI K (u 1) 10 (fun _ => 0), cZ K (u 2) 10 (fun _ => 0)]) (fun sz => M_Slo_init l D K M z1 10 (by first | assumption | omega) sz) [1] rfl (by decide) (as := [z1]) (fun _ => rfl) rfl (ci_Srv_13 hF.2.2.2.2.1 rfl rfl ⟨by decide, by decide⟩) rfl rfl (Nat.le_of_ble_eq_true rfl) d_Srv_init_11 ⟨Nat.le_of_ble_eq_true rfl, Nat.le_of_ble_eq_true rfl⟩ (fun u2 => ?_)
  refine zx_eq (ws' := [cO a0 5 [.null, .null, .int 0, .int 0, .null, .null], cO z1 6 [.ref (u2 0), .ref (u2 1), .ref (u2 2), .int 0], cI K (u2 0) 10 (fun _ => 0), cI K (u2 1) 10 (fun _ => 0), cZ K (u2 2) 10 (fun _ => 0)]) (lv' := [(0, .ref a0)]) rfl rfl rfl ?_
  refine zp_Srv_16 (pc := 14) hF hnm 0 rfl (Nat.le_of_ble_eq_true rfl) d_Srv_init_14 (ws' := [cO a0 5 [.ref z1, .null, .int 0, .int 0, .null, .null], cO z1 6 [.ref (u2 0), .ref (u2 1), .ref (u2 2), .int 0], cI K (u2 0) 10 (fun _ => 0), cI K (u2 1) 10 (fun _ => 0), cZ K (u2 2) 10 (fun _ => 0)]) rfl ?_
  refine zx_aload_n (pc := 17) hF d_Srv_init_17 rfl 0 rfl ?_
  refine zx_new (pc := 18) hF (ci := 7) (fs := [.int 0]) wu_Stp t_Stp t_Stp_ok wc_Srv_20 wn_Stp wz_Stp rfl hfs_Stp (Nat.le_of_ble_eq_true rfl) (Nat.le_of_ble_eq_true rfl) d_Srv_init_18 (fun z3 => ?_)
  refine zx_eq (ws' := [cO a0 5 [.ref z1, .null, .int 0, .int 0, .null, .null], cO z1 6 [.ref (u2 0), .ref (u2 1), .ref (u2 2), .int 0], cI K (u2 0) 10 (fun _ => 0), cI K (u2 1) 10 (fun _ => 0), cZ K (u2 2) 10 (fun _ => 0), cO z3 7 [.int 0]]) (lv' := [(0, .ref a0)]) rfl rfl rfl ?_
  refine zx_dup (pc := 21) hF d_Srv_init_21 rfl ?_
  refine zx_iconst (pc := 22) hF d_Srv_init_22 k_i0 ?_
  refine zx_Iv (pc := 23) hF (As := [.int 0]) (rest := [.ref z3, .ref a0]) (w1 := fun u => [cO z3 7 [.int 0]]) (wn := fun u => []) (fun sz => M_Stp_init l D K M z3 0  sz) [5] rfl (by decide) (as := [z3]) (fun _ => rfl) rfl (ci_Srv_22 hF.2.2.2.2.1 rfl rfl ⟨by decide, by decide⟩) rfl rfl (Nat.le_of_ble_eq_true rfl) d_Srv_init_23 ⟨Nat.le_of_ble_eq_true rfl, Nat.le_of_ble_eq_true rfl⟩ (fun u4 => ?_)
  refine zx_eq (ws' := [cO a0 5 [.ref z1, .null, .int 0, .int 0, .null, .null], cO z1 6 [.ref (u2 0), .ref (u2 1), .ref (u2 2), .int 0], cI K (u2 0) 10 (fun _ => 0), cI K (u2 1) 10 (fun _ => 0), cZ K (u2 2) 10 (fun _ => 0), cO z3 7 [.int 0]]) (lv' := [(0, .ref a0)]) rfl rfl rfl ?_
  refine zp_Srv_23 (pc := 26) hF hnm 0 rfl (Nat.le_of_ble_eq_true rfl) d_Srv_init_26 (ws' := [cO a0 5 [.ref z1, .ref z3, .int 0, .int 0, .null, .null], cO z1 6 [.ref (u2 0), .ref (u2 1), .ref (u2 2), .int 0], cI K (u2 0) 10 (fun _ => 0), cI K (u2 1) 10 (fun _ => 0), cZ K (u2 2) 10 (fun _ => 0), cO z3 7 [.int 0]]) rfl ?_
  refine zx_aload_n (pc := 29) hF d_Srv_init_29 rfl 0 rfl ?_
  refine zx_iconst (pc := 30) hF d_Srv_init_30 k_i1 ?_
  refine zp_Srv_27 (pc := 31) hF 0 rfl (Or.inr rfl) (Nat.le_of_ble_eq_true rfl) d_Srv_init_31 (ws' := [cO a0 5 [.ref z1, .ref z3, .int 1, .int 0, .null, .null], cO z1 6 [.ref (u2 0), .ref (u2 1), .ref (u2 2), .int 0], cI K (u2 0) 10 (fun _ => 0), cI K (u2 1) 10 (fun _ => 0), cZ K (u2 2) 10 (fun _ => 0), cO z3 7 [.int 0]]) rfl ?_
  refine zx_aload_n (pc := 34) hF d_Srv_init_34 rfl 0 rfl ?_
  refine zx_bipush (pc := 35) hF d_Srv_init_35 k_b10 ?_
  refine zx_newaI (pc := 37) hF (n := 10) 10 (by omega) (by omega) (Nat.le_of_ble_eq_true rfl) (Nat.le_of_ble_eq_true rfl) d_Srv_init_37 (fun z5 => ?_)
  refine zx_eq (ws' := [cO a0 5 [.ref z1, .ref z3, .int 1, .int 0, .null, .null], cO z1 6 [.ref (u2 0), .ref (u2 1), .ref (u2 2), .int 0], cI K (u2 0) 10 (fun _ => 0), cI K (u2 1) 10 (fun _ => 0), cZ K (u2 2) 10 (fun _ => 0), cO z3 7 [.int 0], cI K z5 10 (fun _ => 0)]) (lv' := [(0, .ref a0)]) rfl rfl rfl ?_
  refine zp_Srv_31 (pc := 39) hF hnm 0 rfl (Nat.le_of_ble_eq_true rfl) d_Srv_init_39 (ws' := [cO a0 5 [.ref z1, .ref z3, .int 1, .int 0, .ref z5, .null], cO z1 6 [.ref (u2 0), .ref (u2 1), .ref (u2 2), .int 0], cI K (u2 0) 10 (fun _ => 0), cI K (u2 1) 10 (fun _ => 0), cZ K (u2 2) 10 (fun _ => 0), cO z3 7 [.int 0], cI K z5 10 (fun _ => 0)]) rfl ?_
  refine zx_aload_n (pc := 42) hF d_Srv_init_42 rfl 0 rfl ?_
  refine zx_bipush (pc := 43) hF d_Srv_init_43 k_b10 ?_
  refine zx_newaI (pc := 45) hF (n := 10) 10 (by omega) (by omega) (Nat.le_of_ble_eq_true rfl) (Nat.le_of_ble_eq_true rfl) d_Srv_init_45 (fun z6 => ?_)
  refine zx_eq (ws' := [cO a0 5 [.ref z1, .ref z3, .int 1, .int 0, .ref z5, .null], cO z1 6 [.ref (u2 0), .ref (u2 1), .ref (u2 2), .int 0], cI K (u2 0) 10 (fun _ => 0), cI K (u2 1) 10 (fun _ => 0), cZ K (u2 2) 10 (fun _ => 0), cO z3 7 [.int 0], cI K z5 10 (fun _ => 0), cI K z6 10 (fun _ => 0)]) (lv' := [(0, .ref a0)]) rfl rfl rfl ?_
  refine zp_Srv_35 (pc := 47) hF hnm 0 rfl (Nat.le_of_ble_eq_true rfl) d_Srv_init_47 (ws' := [cO a0 5 [.ref z1, .ref z3, .int 1, .int 0, .ref z5, .ref z6], cO z1 6 [.ref (u2 0), .ref (u2 1), .ref (u2 2), .int 0], cI K (u2 0) 10 (fun _ => 0), cI K (u2 1) 10 (fun _ => 0), cZ K (u2 2) 10 (fun _ => 0), cO z3 7 [.int 0], cI K z5 10 (fun _ => 0), cI K z6 10 (fun _ => 0)]) rfl ?_
  exact zx_nret (pc := 50) hF hr hlk (fun i => match i with | 0 => z1 | 1 => u2 0 | 2 => u2 1 | 3 => u2 2 | 4 => z3 | 5 => z5 | _ => z6) rfl d_Srv_init_50
