set_option maxRecDepth 20000 in
theorem M_PS_route (l : Launch) (D : va_G) (K : Nat → ClassId) (KB KS : ClassId) (ps0 : Nat) (dg0 : Nat) (ba0 : Nat) (sa0 : Nat) (m : Nat) (kp0 : Nat) (wi0 : Nat) (hkp : Int32) (lca : Int32) (lre : Int32) (lta : Int32) (tim : Int32) (B : Nat) (rb : Nat → Option Nat) (k0 : Int64) (k1 : Int64) (dv : f_4) (lv : Nat → Int32) (T : va_W) (h : Int64) (hB : B ≤ 4) (hT : f_TB rb T B lv) (sz : Nat) : zM l y_PS_route (zT y_PS_route b_PS_route 6 (some .int)) (zR 0 0) 0 0 D K (zM2 KB KS) [.ref ps0, .long h] (cO ps0 0 [.ref dg0, .ref ba0, .ref sa0, .int (nI m), .ref kp0, .ref wi0, .int hkp, .int lca, .int lre, .int lta, .int tim] :: cR KB ba0 B rb :: cO dg0 2 [.long k0, .long k1, .long dv.1, .long dv.2.1, .long dv.2.2.1, .long dv.2.2.2] :: T) sz (zQi D K (zM2 KB KS) (f_route lv B h) (cO ps0 0 [.ref dg0, .ref ba0, .ref sa0, .int (nI m), .ref kp0, .ref wi0, .int hkp, .int lca, .int lre, .int lta, .int tim] :: cR KB ba0 B rb :: cO dg0 2 [.long k0, .long k1, .long dv.1, .long dv.2.1, .long dv.2.2.1, .long dv.2.2.2] :: T)) := by
  refine zx_head (by decide) (Nat.le_of_ble_eq_true rfl) ?_
  intro _ _ _ _ _ _ _ _ _ hF hr hlk hnm
  refine zx_iconst (pc := 0) hF d_PS_route_0 k_i0 ?_
  refine zx_istore_n (pc := 1) hF (lv' := [(3, .int 0), (0, .ref ps0), (1, .long h)]) d_PS_route_1 rfl (by decide) rfl ?_
  refine zx_iconst (pc := 2) hF d_PS_route_2 k_i0 ?_
  refine zx_istore (pc := 3) hF (lv' := [(4, .int 0), (3, .int 0), (0, .ref ps0), (1, .long h)]) d_PS_route_3 (by decide) rfl ?_
  refine zx_lv [2, 3, 1, 0] (lv' := [(0, .ref ps0), (1, .long h), (3, .int 0), (4, .int 0)]) rfl ?_
  refine zx_loop (pc := 5) (σ := Nat × Nat) (fun kA zv => (zv.1 + kA = B) ∧ (f_count (fun y => !(lv y == 0)) kA zv.1 zv.2 = f_liv lv B) ∧ (zv.2 ≤ zv.1)) (fun zv => (cO ps0 0 [.ref dg0, .ref ba0, .ref sa0, .int (nI m), .ref kp0, .ref wi0, .int hkp, .int lca, .int lre, .int lta, .int tim] :: cR KB ba0 B rb :: cO dg0 2 [.long k0, .long k1, .long dv.1, .long dv.2.1, .long dv.2.2.1, .long dv.2.2.2] :: T)) (fun zv => [(0, .ref ps0), (1, .long h), (3, .int (nI zv.2)), (4, .int (nI zv.1))]) B (0, 0) ⟨by first | omega | (dsimp only; omega) | dsimp only, rfl, by first | omega | (dsimp only; omega) | dsimp only⟩ rfl rfl ?_
  intro kA zv hI ihA
  obtain ⟨j, c⟩ := zv
  obtain ⟨hkA, hXA, hcA⟩ := hI
  replace hkA : j + kA = B := hkA
  replace hXA : f_count (fun y => !(lv y == 0)) kA j c = f_liv lv B := hXA
  replace hcA : c ≤ j := hcA
  refine zx_eq (ws' := (cO ps0 0 [.ref dg0, .ref ba0, .ref sa0, .int (nI m), .ref kp0, .ref wi0, .int hkp, .int lca, .int lre, .int lta, .int tim] :: cR KB ba0 B rb :: cO dg0 2 [.long k0, .long k1, .long dv.1, .long dv.2.1, .long dv.2.2.1, .long dv.2.2.2] :: T)) (lv' := [(0, .ref ps0), (1, .long h), (3, .int (nI c)), (4, .int (nI j))]) rfl rfl rfl ?_
  refine zx_iload (pc := 5) hF d_PS_route_5 3 rfl ?_
  refine zx_aload_n (pc := 7) hF d_PS_route_7 rfl 0 rfl ?_
  refine zg_PS_66 (pc := 8) hF 0 rfl rfl d_PS_route_8 ?_
  refine zx_alen (pc := 11) hF 1 3 rfl rfl (v := nI B) rfl d_PS_route_11 ?_
  refine zx_icmp_ge (pc := 12) hF d_PS_route_12 (tgt := 37) rfl (fun h12 => ?_) (fun h12 => ?_)
  · replace h12 : B ≤ j := (nI_leI (a := B) (b := j) (by omega) (by omega)).mp h12
    obtain rfl : kA = 0 := (by omega)
    have q_c : c = f_liv lv B := hXA
    subst q_c
    refine zx_lload_n (pc := 37) hF d_PS_route_37 rfl 1 rfl ?_
    refine zx_bipush (pc := 38) hF d_PS_route_38 k_b32 ?_
    refine zx_lushr (pc := 40) hF (v := (zlushr h 32)) d_PS_route_40 rfl ?_
    refine zx_iload_n (pc := 41) hF d_PS_route_41 rfl 2 rfl ?_
    refine zx_i2l (pc := 42) hF (v := (Int32.toInt64 (nI (f_liv lv B)))) d_PS_route_42 rfl ?_
    refine zx_lmul (pc := 43) hF d_PS_route_43 ?_
    refine zx_bipush (pc := 44) hF d_PS_route_44 k_b32 ?_
    refine zx_lushr (pc := 46) hF (v := (zlushr ((zlushr h 32) * (Int32.toInt64 (nI (f_liv lv B)))) 32)) d_PS_route_46 rfl ?_
    refine zx_l2i (pc := 47) hF (v := (Int64.toInt32 (zlushr ((zlushr h 32) * (Int32.toInt64 (nI (f_liv lv B)))) 32))) d_PS_route_47 rfl ?_
    refine zx_istore (pc := 48) hF (lv' := [(4, .int (Int64.toInt32 (zlushr ((zlushr h 32) * (Int32.toInt64 (nI (f_liv lv B)))) 32))), (0, .ref ps0), (1, .long h), (3, .int (nI (f_liv lv B)))]) d_PS_route_48 (by decide) rfl ?_
    refine zx_iconst (pc := 50) hF d_PS_route_50 k_i0 ?_
    refine zx_istore (pc := 51) hF (lv' := [(5, .int 0), (4, .int (Int64.toInt32 (zlushr ((zlushr h 32) * (Int32.toInt64 (nI (f_liv lv B)))) 32))), (0, .ref ps0), (1, .long h), (3, .int (nI (f_liv lv B)))]) d_PS_route_51 (by decide) rfl ?_
    refine zx_lv [2, 1, 0] (lv' := [(0, .ref ps0), (4, .int (Int64.toInt32 (zlushr ((zlushr h 32) * (Int32.toInt64 (nI (f_liv lv B)))) 32))), (5, .int 0)]) rfl ?_
    refine zx_loop (pc := 53) (σ := Nat × Int32) (fun k zv => (zv.1 + k = B) ∧ (f_rt lv k zv.1 zv.2 = f_route lv B h)) (fun zv => (cO ps0 0 [.ref dg0, .ref ba0, .ref sa0, .int (nI m), .ref kp0, .ref wi0, .int hkp, .int lca, .int lre, .int lta, .int tim] :: cR KB ba0 B rb :: cO dg0 2 [.long k0, .long k1, .long dv.1, .long dv.2.1, .long dv.2.2.1, .long dv.2.2.2] :: T)) (fun zv => [(0, .ref ps0), (4, .int zv.2), (5, .int (nI zv.1))]) B (0, (Int64.toInt32 (zlushr ((zlushr h 32) * (Int32.toInt64 (nI (f_liv lv B)))) 32))) ⟨by first | omega | (dsimp only; omega) | dsimp only, rfl⟩ rfl rfl ?_
    intro k zv hI ih
    obtain ⟨j, bf⟩ := zv
    obtain ⟨hk, hX⟩ := hI
    replace hk : j + k = B := hk
    replace hX : f_rt lv k j bf = f_route lv B h := hX
    refine zx_eq (ws' := (cO ps0 0 [.ref dg0, .ref ba0, .ref sa0, .int (nI m), .ref kp0, .ref wi0, .int hkp, .int lca, .int lre, .int lta, .int tim] :: cR KB ba0 B rb :: cO dg0 2 [.long k0, .long k1, .long dv.1, .long dv.2.1, .long dv.2.2.1, .long dv.2.2.2] :: T)) (lv' := [(0, .ref ps0), (4, .int bf), (5, .int (nI j))]) rfl rfl rfl ?_
    refine zx_iload (pc := 53) hF d_PS_route_53 2 rfl ?_
    refine zx_aload_n (pc := 55) hF d_PS_route_55 rfl 0 rfl ?_
    refine zg_PS_66 (pc := 56) hF 0 rfl rfl d_PS_route_56 ?_
    refine zx_alen (pc := 59) hF 1 3 rfl rfl (v := nI B) rfl d_PS_route_59 ?_
    refine zx_icmp_ge (pc := 60) hF d_PS_route_60 (tgt := 93) rfl (fun h60 => ?_) (fun h60 => ?_)
    · replace h60 : B ≤ j := (nI_leI (a := B) (b := j) (by omega) (by omega)).mp h60
      refine zx_iconst (pc := 93) hF d_PS_route_93 k_im1 ?_
      exact zx_iret (pc := 94) hF hr hlk (by obtain rfl : k = 0 := (by omega); exact hX) rfl d_PS_route_94
    · replace h60 : ¬ B ≤ j := fun z => h60 ((nI_leI (a := B) (b := j) (by omega) (by omega)).mpr z)
      refine zx_aload_n (pc := 63) hF d_PS_route_63 rfl 0 rfl ?_
      refine zg_PS_66 (pc := 64) hF 0 rfl rfl d_PS_route_64 ?_
      refine zx_iload (pc := 67) hF d_PS_route_67 2 rfl ?_
      obtain ⟨zq, zo, zfs, hzr, hzT, hzf⟩ := hT j (by omega)
      refine zx_aldq (pc := 69) hF 1 3 rfl rfl (vp_in_nI (by omega) (by omega)) (by rw [nI_clamp (by omega)]; exact hzr) d_PS_route_69 ?_
      refine zg_PS_159 (pc := 70) hF (zq + 3) hzT hzf d_PS_route_70 ?_
      refine zx_if_eq (pc := 73) hF d_PS_route_73 (tgt := 87) rfl (fun h73 => ?_) (fun h73 => ?_)
      · refine zx_iinc (pc := 87) hF (v := nI (j + 1)) (lv' := [(5, .int (nI (j + 1))), (0, .ref ps0), (4, .int bf)]) d_PS_route_87 2 rfl (zinc j) (by decide) rfl ?_
        refine zx_goto (pc := 90) hF d_PS_route_90 (tgt := 53) rfl ?_
        refine zx_lv [1, 2, 0] (lv' := [(0, .ref ps0), (4, .int bf), (5, .int (nI (j + 1)))]) rfl ?_
        exact ih (k - 1) (j + 1, bf) (by omega) ⟨by first | omega | (dsimp only; omega) | dsimp only, by obtain ⟨k', rfl⟩ : ∃ k', k = k' + 1 := ⟨k - 1, by omega⟩; simpa [f_rt, h73] using hX⟩
      · refine zx_iload (pc := 76) hF d_PS_route_76 1 rfl ?_
        refine zx_if_ne (pc := 78) hF d_PS_route_78 (tgt := 84) rfl (fun h78 => ?_) (fun h78 => ?_)
        · refine zx_iinc (pc := 84) hF (v := (bf + (-1))) (lv' := [(4, .int (bf + (-1))), (0, .ref ps0), (5, .int (nI j))]) d_PS_route_84 1 rfl (by rw [k_im1]) (by decide) rfl ?_
          refine zx_iinc (pc := 87) hF (v := nI (j + 1)) (lv' := [(5, .int (nI (j + 1))), (4, .int (bf + (-1))), (0, .ref ps0)]) d_PS_route_87 2 rfl (zinc j) (by decide) rfl ?_
          refine zx_goto (pc := 90) hF d_PS_route_90 (tgt := 53) rfl ?_
          refine zx_lv [2, 1, 0] (lv' := [(0, .ref ps0), (4, .int (bf + (-1))), (5, .int (nI (j + 1)))]) rfl ?_
          exact ih (k - 1) (j + 1, (bf + (-1))) (by omega) ⟨by first | omega | (dsimp only; omega) | dsimp only, by obtain ⟨k', rfl⟩ : ∃ k', k = k' + 1 := ⟨k - 1, by omega⟩; simpa [f_rt, h73, h78] using hX⟩
        · refine zx_iload (pc := 81) hF d_PS_route_81 2 rfl ?_
          exact zx_iret (pc := 83) hF hr hlk (by obtain ⟨k', rfl⟩ : ∃ k', k = k' + 1 := ⟨k - 1, by omega⟩; simpa [f_rt, h73, h78] using hX) rfl d_PS_route_83
  · replace h12 : ¬ B ≤ j := fun z => h12 ((nI_leI (a := B) (b := j) (by omega) (by omega)).mpr z)
    refine zx_aload_n (pc := 15) hF d_PS_route_15 rfl 0 rfl ?_
    refine zg_PS_66 (pc := 16) hF 0 rfl rfl d_PS_route_16 ?_
    refine zx_iload (pc := 19) hF d_PS_route_19 3 rfl ?_
    obtain ⟨zq, zo, zfs, hzr, hzT, hzf⟩ := hT j (by omega)
    refine zx_aldq (pc := 21) hF 1 3 rfl rfl (vp_in_nI (by omega) (by omega)) (by rw [nI_clamp (by omega)]; exact hzr) d_PS_route_21 ?_
    refine zg_PS_159 (pc := 22) hF (zq + 3) hzT hzf d_PS_route_22 ?_
    refine zx_if_eq (pc := 25) hF d_PS_route_25 (tgt := 31) rfl (fun h25 => ?_) (fun h25 => ?_)
    · refine zx_iinc (pc := 31) hF (v := nI (j + 1)) (lv' := [(4, .int (nI (j + 1))), (0, .ref ps0), (1, .long h), (3, .int (nI c))]) d_PS_route_31 3 rfl (zinc j) (by decide) rfl ?_
      refine zx_goto (pc := 34) hF d_PS_route_34 (tgt := 5) rfl ?_
      refine zx_lv [1, 2, 3, 0] (lv' := [(0, .ref ps0), (1, .long h), (3, .int (nI c)), (4, .int (nI (j + 1)))]) rfl ?_
      exact ihA (kA - 1) (j + 1, c) (by omega) ⟨by first | omega | (dsimp only; omega) | dsimp only, by obtain ⟨k', rfl⟩ : ∃ k', kA = k' + 1 := ⟨kA - 1, by omega⟩; simpa [f_count, h25] using hXA, by first | omega | (dsimp only; omega) | dsimp only⟩
    · refine zx_iinc (pc := 28) hF (v := nI (c + 1)) (lv' := [(3, .int (nI (c + 1))), (0, .ref ps0), (1, .long h), (4, .int (nI j))]) d_PS_route_28 2 rfl (zinc c) (by decide) rfl ?_
      refine zx_iinc (pc := 31) hF (v := nI (j + 1)) (lv' := [(4, .int (nI (j + 1))), (3, .int (nI (c + 1))), (0, .ref ps0), (1, .long h)]) d_PS_route_31 3 rfl (zinc j) (by decide) rfl ?_
      refine zx_goto (pc := 34) hF d_PS_route_34 (tgt := 5) rfl ?_
      refine zx_lv [2, 3, 1, 0] (lv' := [(0, .ref ps0), (1, .long h), (3, .int (nI (c + 1))), (4, .int (nI (j + 1)))]) rfl ?_
      exact ihA (kA - 1) (j + 1, c + 1) (by omega) ⟨by first | omega | (dsimp only; omega) | dsimp only, by obtain ⟨k', rfl⟩ : ∃ k', kA = k' + 1 := ⟨kA - 1, by omega⟩; simpa [f_count, h25] using hXA, by first | omega | (dsimp only; omega) | dsimp only⟩
set_option maxRecDepth 20000 in
theorem M_PS_deliver (l : Launch) (D : va_G) (K : Nat → ClassId) (KB KS : ClassId) (ps0 : Nat) (dg0 : Nat) (ba0 : Nat) (sa0 : Nat) (m : Nat) (kp0 : Nat) (wi0 : Nat) (hkp : Int32) (lca : Int32) (lre : Int32) (lta : Int32) (tim : Int32) (kp : Nat → Int32) (wi1 : Nat) (w : Nat → Int32) (B : Nat) (rb : Nat → Option Nat) (n : Nat) (rs : Nat → Option Nat) (o0 : Nat) (w0 : Nat) (b0 : Nat) (e0 : Nat) (t0 : Nat) (x0 : Nat) (live : Int32) (cut : Nat → Int32) (bst : Int32) (v0 : Nat) (c0 : Nat) (c1 : Nat) (on : Int32) (tk : Int32) (v1 : Nat) (v2 : Nat) (c2 : Nat) (c3 : Nat) (c4 : Nat) (src2 : Nat → Int32) (prt2 : Nat → Int32) (use2 : Nat → Int32) (cnt2 : Int32) (nx : Nat → Int32) (dt : Nat → Int32) (sst : Int32) (b : Nat) (q : Nat) (p0 : Int32) (sq : Int32) (fl : Int32) (hB : B ≤ 4) (hS : n ≤ 8) (hb : b < B) (hrb : rb b = some o0) (hq : q < n) (hrs : rs q = some v0) (sz : Nat) : zM l y_PS_deliver (zT y_PS_deliver b_PS_deliver 8 none) (zR 5 114) 0 0 D K (zM2 KB KS) [.ref ps0, .int (nI b), .int (nI q), .int p0, .int sq, .int fl] [cO ps0 0 [.ref dg0, .ref ba0, .ref sa0, .int (nI m), .ref kp0, .ref wi0, .int hkp, .int lca, .int lre, .int lta, .int tim], cI K kp0 5 kp, cO wi0 10 [.ref wi1], cI K wi1 16 w, cR KB ba0 B rb, cR KS sa0 n rs, cO o0 1 [.ref w0, .ref b0, .ref e0, .ref t0, .int live, .ref x0], cZ K x0 n cut, cO t0 7 [.int bst], cO v0 5 [.ref c0, .ref c1, .int on, .int tk, .ref v1, .ref v2], cO c0 6 [.ref c2, .ref c3, .ref c4, .int cnt2], cI K c2 10 src2, cI K c3 10 prt2, cZ K c4 10 use2, cI K v1 10 nx, cI K v2 10 dt, cO c1 7 [.int sst]] sz (zQv D K (zM2 KB KS) [cO ps0 0 [.ref dg0, .ref ba0, .ref sa0, .int (nI m), .ref kp0, .ref wi0, .int hkp, .int (nI b), .int (f_dm (f_meets on (cut q)) tk nx dt use2 src2 prt2 cnt2 (kp 3) p0 sq fl).1, .int (f_dt (f_meets on (cut q)) (f_dm (f_meets on (cut q)) tk nx dt use2 src2 prt2 cnt2 (kp 3) p0 sq fl).2.1), .int tim], cI K kp0 5 kp, cO wi0 10 [.ref wi1], cI K wi1 16 (f_dw (f_dm (f_meets on (cut q)) tk nx dt use2 src2 prt2 cnt2 (kp 3) p0 sq fl).1 sst (kp 3) (f_fwd w kp bst (nI b) (nI q))), cR KB ba0 B rb, cR KS sa0 n rs, cO o0 1 [.ref w0, .ref b0, .ref e0, .ref t0, .int live, .ref x0], cZ K x0 n cut, cO t0 7 [.int (f_next bst)], cO v0 5 [.ref c0, .ref c1, .int on, .int (f_dm (f_meets on (cut q)) tk nx dt use2 src2 prt2 cnt2 (kp 3) p0 sq fl).2.1, .ref v1, .ref v2], cO c0 6 [.ref c2, .ref c3, .ref c4, .int (f_dm (f_meets on (cut q)) tk nx dt use2 src2 prt2 cnt2 (kp 3) p0 sq fl).2.2.2.2.2], cI K c2 10 (f_ds (f_meets on (cut q)) src2 (f_rnew fl use2 src2 prt2 (kp 3) p0) (kp 3)), cI K c3 10 (f_ds (f_meets on (cut q)) prt2 (f_rnew fl use2 src2 prt2 (kp 3) p0) p0), cZ K c4 10 (f_dm (f_meets on (cut q)) tk nx dt use2 src2 prt2 cnt2 (kp 3) p0 sq fl).2.2.2.2.1, cI K v1 10 (f_dm (f_meets on (cut q)) tk nx dt use2 src2 prt2 cnt2 (kp 3) p0 sq fl).2.2.1, cI K v2 10 (f_dm (f_meets on (cut q)) tk nx dt use2 src2 prt2 cnt2 (kp 3) p0 sq fl).2.2.2.1, cO c1 7 [.int (f_dst (f_dm (f_meets on (cut q)) tk nx dt use2 src2 prt2 cnt2 (kp 3) p0 sq fl).1 sst)]]) := by
  refine zx_head (by decide) (Nat.le_of_ble_eq_true rfl) ?_
  intro _ _ _ _ _ _ _ _ _ hF hr hlk hnm
  refine zx_aload_n (pc := 0) hF d_PS_deliver_0 rfl 0 rfl ?_
  refine zg_PS_66 (pc := 1) hF 0 rfl rfl d_PS_deliver_1 ?_
  refine zx_iload_n (pc := 4) hF d_PS_deliver_4 rfl 1 rfl ?_
  refine zx_aldq (pc := 5) hF 4 3 rfl rfl (vp_in_nI hb (by omega)) (by rw [nI_clamp (by omega)]; exact hrb) d_PS_deliver_5 ?_
  refine zx_astore (pc := 6) hF (lv' := [(6, .ref o0), (0, .ref ps0), (1, .int (nI b)), (2, .int (nI q)), (3, .int p0), (4, .int sq), (5, .int fl)]) d_PS_deliver_6 (by decide) rfl ?_
  refine zx_aload_n (pc := 8) hF d_PS_deliver_8 rfl 1 rfl ?_
  refine zg_PS_54 (pc := 9) hF 0 rfl rfl d_PS_deliver_9 ?_
  refine zx_iload_n (pc := 12) hF d_PS_deliver_12 rfl 3 rfl ?_
  refine zx_aldq (pc := 13) hF 5 4 rfl rfl (vp_in_nI hq (by omega)) (by rw [nI_clamp (by omega)]; exact hrs) d_PS_deliver_13 ?_
  refine zx_astore (pc := 14) hF (lv' := [(7, .ref v0), (6, .ref o0), (0, .ref ps0), (1, .int (nI b)), (2, .int (nI q)), (3, .int p0), (4, .int sq), (5, .int fl)]) d_PS_deliver_14 (by decide) rfl ?_
  refine zx_aload_n (pc := 16) hF d_PS_deliver_16 rfl 2 rfl ?_
  refine zx_iload_n (pc := 17) hF d_PS_deliver_17 rfl 3 rfl ?_
  refine zp_PS_20 (pc := 18) hF 0 rfl (Nat.le_of_ble_eq_true rfl) d_PS_deliver_18 (ws' := [cO ps0 0 [.ref dg0, .ref ba0, .ref sa0, .int (nI m), .ref kp0, .ref wi0, .int hkp, .int (nI b), .int lre, .int lta, .int tim], cI K kp0 5 kp, cO wi0 10 [.ref wi1], cI K wi1 16 w, cR KB ba0 B rb, cR KS sa0 n rs, cO o0 1 [.ref w0, .ref b0, .ref e0, .ref t0, .int live, .ref x0], cZ K x0 n cut, cO t0 7 [.int bst], cO v0 5 [.ref c0, .ref c1, .int on, .int tk, .ref v1, .ref v2], cO c0 6 [.ref c2, .ref c3, .ref c4, .int cnt2], cI K c2 10 src2, cI K c3 10 prt2, cZ K c4 10 use2, cI K v1 10 nx, cI K v2 10 dt, cO c1 7 [.int sst]]) rfl ?_
  refine zx_aload_n (pc := 21) hF d_PS_deliver_21 rfl 2 rfl ?_
  refine zx_iconst (pc := 22) hF d_PS_deliver_22 k_i0 ?_
  refine zp_PS_24 (pc := 23) hF 0 rfl (Nat.le_of_ble_eq_true rfl) d_PS_deliver_23 (ws' := [cO ps0 0 [.ref dg0, .ref ba0, .ref sa0, .int (nI m), .ref kp0, .ref wi0, .int hkp, .int (nI b), .int 0, .int lta, .int tim], cI K kp0 5 kp, cO wi0 10 [.ref wi1], cI K wi1 16 w, cR KB ba0 B rb, cR KS sa0 n rs, cO o0 1 [.ref w0, .ref b0, .ref e0, .ref t0, .int live, .ref x0], cZ K x0 n cut, cO t0 7 [.int bst], cO v0 5 [.ref c0, .ref c1, .int on, .int tk, .ref v1, .ref v2], cO c0 6 [.ref c2, .ref c3, .ref c4, .int cnt2], cI K c2 10 src2, cI K c3 10 prt2, cZ K c4 10 use2, cI K v1 10 nx, cI K v2 10 dt, cO c1 7 [.int sst]]) rfl ?_
  refine zx_aload_n (pc := 26) hF d_PS_deliver_26 rfl 2 rfl ?_
  refine zx_iconst (pc := 27) hF d_PS_deliver_27 k_i0 ?_
  refine zp_PS_27 (pc := 28) hF 0 rfl (Nat.le_of_ble_eq_true rfl) d_PS_deliver_28 (ws' := [cO ps0 0 [.ref dg0, .ref ba0, .ref sa0, .int (nI m), .ref kp0, .ref wi0, .int hkp, .int (nI b), .int 0, .int 0, .int tim], cI K kp0 5 kp, cO wi0 10 [.ref wi1], cI K wi1 16 w, cR KB ba0 B rb, cR KS sa0 n rs, cO o0 1 [.ref w0, .ref b0, .ref e0, .ref t0, .int live, .ref x0], cZ K x0 n cut, cO t0 7 [.int bst], cO v0 5 [.ref c0, .ref c1, .int on, .int tk, .ref v1, .ref v2], cO c0 6 [.ref c2, .ref c3, .ref c4, .int cnt2], cI K c2 10 src2, cI K c3 10 prt2, cZ K c4 10 use2, cI K v1 10 nx, cI K v2 10 dt, cO c1 7 [.int sst]]) rfl ?_
  refine zx_aload (pc := 31) hF d_PS_deliver_31 1 rfl ?_
  refine zx_iload_n (pc := 33) hF d_PS_deliver_33 rfl 4 rfl ?_
  refine zx_aload (pc := 34) hF d_PS_deliver_34 0 rfl ?_
  refine zx_Vi (pc := 36) hF (As := [.int (nI q), .ref v0]) (rest := []) (fun sz => M_Bal_reaches l D K (zM2 KB KS) o0 w0 b0 e0 t0 x0 live n cut v0 c0 c1 on tk v1 v2 q (by first | assumption | omega) (by first | assumption | omega) sz) [6, 7, 9] rfl (by decide) (as := [o0, x0, v0]) rfl rfl (ws' := [cO ps0 0 [.ref dg0, .ref ba0, .ref sa0, .int (nI m), .ref kp0, .ref wi0, .int hkp, .int (nI b), .int 0, .int 0, .int tim], cI K kp0 5 kp, cO wi0 10 [.ref wi1], cI K wi1 16 w, cR KB ba0 B rb, cR KS sa0 n rs, cO o0 1 [.ref w0, .ref b0, .ref e0, .ref t0, .int live, .ref x0], cZ K x0 n cut, cO t0 7 [.int bst], cO v0 5 [.ref c0, .ref c1, .int on, .int tk, .ref v1, .ref v2], cO c0 6 [.ref c2, .ref c3, .ref c4, .int cnt2], cI K c2 10 src2, cI K c3 10 prt2, cZ K c4 10 use2, cI K v1 10 nx, cI K v2 10 dt, cO c1 7 [.int sst]]) rfl 0 1 rfl rfl rfl (cw_PS_196 hF.2.2.2.2.1 rfl rfl ⟨by decide, by decide⟩) rfl rfl (Nat.le_of_ble_eq_true rfl) d_PS_deliver_36 ⟨Nat.zero_le _, Nat.zero_le _⟩ ?_
  refine zx_if_eq (pc := 39) hF d_PS_deliver_39 (tgt := 71) rfl (fun h39 => ?_) (fun h39 => ?_)
  · refine zx_aload_n (pc := 71) hF d_PS_deliver_71 rfl 2 rfl ?_
    refine zg_PS_16 (pc := 72) hF 0 rfl rfl d_PS_deliver_72 ?_
    refine zx_aload_n (pc := 75) hF d_PS_deliver_75 rfl 2 rfl ?_
    refine zg_PS_7 (pc := 76) hF 0 rfl rfl d_PS_deliver_76 ?_
    refine zx_aload (pc := 79) hF d_PS_deliver_79 1 rfl ?_
    refine zg_PS_207 (pc := 81) hF 6 rfl rfl d_PS_deliver_81 ?_
    refine zx_Vi (pc := 84) hF (As := []) (rest := [.ref kp0, .ref wi0]) (fun sz => M_Stp_next l D K (zM2 KB KS) t0 bst  sz) [8] rfl (by decide) (as := [t0]) rfl rfl (ws' := [cO ps0 0 [.ref dg0, .ref ba0, .ref sa0, .int (nI m), .ref kp0, .ref wi0, .int hkp, .int (nI b), .int 0, .int 0, .int tim], cI K kp0 5 kp, cO wi0 10 [.ref wi1], cI K wi1 16 w, cR KB ba0 B rb, cR KS sa0 n rs, cO o0 1 [.ref w0, .ref b0, .ref e0, .ref t0, .int live, .ref x0], cZ K x0 n cut, cO t0 7 [.int (f_next bst)], cO v0 5 [.ref c0, .ref c1, .int on, .int tk, .ref v1, .ref v2], cO c0 6 [.ref c2, .ref c3, .ref c4, .int cnt2], cI K c2 10 src2, cI K c3 10 prt2, cZ K c4 10 use2, cI K v1 10 nx, cI K v2 10 dt, cO c1 7 [.int sst]]) rfl 0 7 rfl rfl rfl (cw_PS_211 hF.2.2.2.2.1 rfl rfl ⟨by decide, by decide⟩) rfl rfl (Nat.le_of_ble_eq_true rfl) d_PS_deliver_84 ⟨Nat.zero_le _, Nat.zero_le _⟩ ?_
    refine zx_iload_n (pc := 87) hF d_PS_deliver_87 rfl 3 rfl ?_
    refine zx_iload_n (pc := 88) hF d_PS_deliver_88 rfl 4 rfl ?_
    refine zx_Vv (pc := 89) hF (As := [.ref kp0, .int bst, .int (nI b), .int (nI q)]) (rest := []) (fun sz => M_Wir_putForward l D K (zM2 KB KS) wi0 wi1 w kp0 kp bst (nI b) (nI q)  sz) [2, 3, 1] rfl (by decide) (as := [wi0, wi1, kp0]) rfl rfl (ws' := [cO ps0 0 [.ref dg0, .ref ba0, .ref sa0, .int (nI m), .ref kp0, .ref wi0, .int hkp, .int (nI b), .int 0, .int 0, .int tim], cI K kp0 5 kp, cO wi0 10 [.ref wi1], cI K wi1 16 (f_fwd w kp bst (nI b) (nI q)), cR KB ba0 B rb, cR KS sa0 n rs, cO o0 1 [.ref w0, .ref b0, .ref e0, .ref t0, .int live, .ref x0], cZ K x0 n cut, cO t0 7 [.int (f_next bst)], cO v0 5 [.ref c0, .ref c1, .int on, .int tk, .ref v1, .ref v2], cO c0 6 [.ref c2, .ref c3, .ref c4, .int cnt2], cI K c2 10 src2, cI K c3 10 prt2, cZ K c4 10 use2, cI K v1 10 nx, cI K v2 10 dt, cO c1 7 [.int sst]]) rfl 0 10 rfl rfl rfl (cw_PS_216 hF.2.2.2.2.1 rfl rfl ⟨by decide, by decide⟩) rfl rfl (Nat.le_of_ble_eq_true rfl) d_PS_deliver_89 ⟨Nat.zero_le _, Nat.zero_le _⟩ ?_
    refine zx_aload_n (pc := 92) hF d_PS_deliver_92 rfl 2 rfl ?_
    refine zg_PS_24 (pc := 93) hF 0 rfl rfl d_PS_deliver_93 ?_
    refine zx_if_ne (pc := 96) hF d_PS_deliver_96 (tgt := 109) rfl (fun h96 => ?_) (fun h96 => ?_)
    · exact absurd h96 (by decide)
    · refine zx_aload_n (pc := 99) hF d_PS_deliver_99 rfl 2 rfl ?_
      refine zg_PS_16 (pc := 100) hF 0 rfl rfl d_PS_deliver_100 ?_
      refine zx_Vv (pc := 103) hF (As := []) (rest := []) (fun sz => M_Wir_clearAnswer l D K (zM2 KB KS) wi0 wi1 (f_fwd w kp bst (nI b) (nI q))  sz) [2, 3] rfl (by decide) (as := [wi0, wi1]) rfl rfl (ws' := [cO ps0 0 [.ref dg0, .ref ba0, .ref sa0, .int (nI m), .ref kp0, .ref wi0, .int hkp, .int (nI b), .int 0, .int 0, .int tim], cI K kp0 5 kp, cO wi0 10 [.ref wi1], cI K wi1 16 (f_zero 5 11 (f_fwd w kp bst (nI b) (nI q))), cR KB ba0 B rb, cR KS sa0 n rs, cO o0 1 [.ref w0, .ref b0, .ref e0, .ref t0, .int live, .ref x0], cZ K x0 n cut, cO t0 7 [.int (f_next bst)], cO v0 5 [.ref c0, .ref c1, .int on, .int tk, .ref v1, .ref v2], cO c0 6 [.ref c2, .ref c3, .ref c4, .int cnt2], cI K c2 10 src2, cI K c3 10 prt2, cZ K c4 10 use2, cI K v1 10 nx, cI K v2 10 dt, cO c1 7 [.int sst]]) rfl 0 10 rfl rfl rfl (cw_PS_220 hF.2.2.2.2.1 rfl rfl ⟨by decide, by decide⟩) rfl rfl (Nat.le_of_ble_eq_true rfl) d_PS_deliver_103 ⟨Nat.zero_le _, Nat.zero_le _⟩ ?_
      refine zx_goto (pc := 106) hF d_PS_deliver_106 (tgt := 130) rfl ?_
      exact zx_vret (pc := 130) hF hr hlk (by simp only [f_dm, f_dt, f_ds, f_dw, f_dst, if_pos h39, ↓reduceIte]) d_PS_deliver_130
  · refine zx_aload_n (pc := 42) hF d_PS_deliver_42 rfl 2 rfl ?_
    refine zx_aload (pc := 43) hF d_PS_deliver_43 0 rfl ?_
    refine zx_aload_n (pc := 45) hF d_PS_deliver_45 rfl 2 rfl ?_
    refine zg_PS_7 (pc := 46) hF 0 rfl rfl d_PS_deliver_46 ?_
    refine zx_iconst (pc := 49) hF d_PS_deliver_49 k_i3 ?_
    refine zx_ialdn (pc := 50) hF (i := 3) 1 rfl (by omega) (by omega) d_PS_deliver_50 ?_
    refine zx_iload_n (pc := 51) hF d_PS_deliver_51 rfl 5 rfl ?_
    refine zx_iload (pc := 52) hF d_PS_deliver_52 6 rfl ?_
    refine zx_iload (pc := 54) hF d_PS_deliver_54 7 rfl ?_
    refine zx_Vi (pc := 56) hF (As := [.int (kp 3), .int p0, .int sq, .int fl]) (rest := [.ref ps0]) (fun sz => M_Srv_receive l D K (zM2 KB KS) v0 v1 v2 c1 c0 c2 c3 c4 src2 prt2 use2 cnt2 on tk nx dt (kp 3) p0 sq fl  sz) [9, 10, 11, 12, 13, 14, 15] rfl (by decide) (as := [v0, c0, c2, c3, c4, v1, v2]) rfl rfl (ws' := [cO ps0 0 [.ref dg0, .ref ba0, .ref sa0, .int (nI m), .ref kp0, .ref wi0, .int hkp, .int (nI b), .int 0, .int 0, .int tim], cI K kp0 5 kp, cO wi0 10 [.ref wi1], cI K wi1 16 w, cR KB ba0 B rb, cR KS sa0 n rs, cO o0 1 [.ref w0, .ref b0, .ref e0, .ref t0, .int live, .ref x0], cZ K x0 n cut, cO t0 7 [.int bst], cO v0 5 [.ref c0, .ref c1, .int on, .int (f_rec nx dt use2 src2 prt2 cnt2 (kp 3) p0 sq fl).2.1, .ref v1, .ref v2], cO c0 6 [.ref c2, .ref c3, .ref c4, .int (f_rec nx dt use2 src2 prt2 cnt2 (kp 3) p0 sq fl).2.2.2.2.2], cI K c2 10 (f_put src2 (f_rnew fl use2 src2 prt2 (kp 3) p0) (kp 3)), cI K c3 10 (f_put prt2 (f_rnew fl use2 src2 prt2 (kp 3) p0) p0), cZ K c4 10 (f_rec nx dt use2 src2 prt2 cnt2 (kp 3) p0 sq fl).2.2.2.2.1, cI K v1 10 (f_rec nx dt use2 src2 prt2 cnt2 (kp 3) p0 sq fl).2.2.1, cI K v2 10 (f_rec nx dt use2 src2 prt2 cnt2 (kp 3) p0 sq fl).2.2.2.1, cO c1 7 [.int sst]]) rfl 0 5 rfl rfl rfl (cw_PS_200 hF.2.2.2.2.1 rfl rfl ⟨by decide, by decide⟩) rfl rfl (Nat.le_of_ble_eq_true rfl) d_PS_deliver_56 ⟨Nat.zero_le _, Nat.zero_le _⟩ ?_
    refine zp_PS_24 (pc := 59) hF 0 rfl (Nat.le_of_ble_eq_true rfl) d_PS_deliver_59 (ws' := [cO ps0 0 [.ref dg0, .ref ba0, .ref sa0, .int (nI m), .ref kp0, .ref wi0, .int hkp, .int (nI b), .int (f_rec nx dt use2 src2 prt2 cnt2 (kp 3) p0 sq fl).1, .int 0, .int tim], cI K kp0 5 kp, cO wi0 10 [.ref wi1], cI K wi1 16 w, cR KB ba0 B rb, cR KS sa0 n rs, cO o0 1 [.ref w0, .ref b0, .ref e0, .ref t0, .int live, .ref x0], cZ K x0 n cut, cO t0 7 [.int bst], cO v0 5 [.ref c0, .ref c1, .int on, .int (f_rec nx dt use2 src2 prt2 cnt2 (kp 3) p0 sq fl).2.1, .ref v1, .ref v2], cO c0 6 [.ref c2, .ref c3, .ref c4, .int (f_rec nx dt use2 src2 prt2 cnt2 (kp 3) p0 sq fl).2.2.2.2.2], cI K c2 10 (f_put src2 (f_rnew fl use2 src2 prt2 (kp 3) p0) (kp 3)), cI K c3 10 (f_put prt2 (f_rnew fl use2 src2 prt2 (kp 3) p0) p0), cZ K c4 10 (f_rec nx dt use2 src2 prt2 cnt2 (kp 3) p0 sq fl).2.2.2.2.1, cI K v1 10 (f_rec nx dt use2 src2 prt2 cnt2 (kp 3) p0 sq fl).2.2.1, cI K v2 10 (f_rec nx dt use2 src2 prt2 cnt2 (kp 3) p0 sq fl).2.2.2.1, cO c1 7 [.int sst]]) rfl ?_
    refine zx_aload_n (pc := 62) hF d_PS_deliver_62 rfl 2 rfl ?_
    refine zx_aload (pc := 63) hF d_PS_deliver_63 0 rfl ?_
    refine zg_PS_204 (pc := 65) hF 9 rfl rfl d_PS_deliver_65 ?_
    refine zp_PS_27 (pc := 68) hF 0 rfl (Nat.le_of_ble_eq_true rfl) d_PS_deliver_68 (ws' := [cO ps0 0 [.ref dg0, .ref ba0, .ref sa0, .int (nI m), .ref kp0, .ref wi0, .int hkp, .int (nI b), .int (f_rec nx dt use2 src2 prt2 cnt2 (kp 3) p0 sq fl).1, .int (f_rec nx dt use2 src2 prt2 cnt2 (kp 3) p0 sq fl).2.1, .int tim], cI K kp0 5 kp, cO wi0 10 [.ref wi1], cI K wi1 16 w, cR KB ba0 B rb, cR KS sa0 n rs, cO o0 1 [.ref w0, .ref b0, .ref e0, .ref t0, .int live, .ref x0], cZ K x0 n cut, cO t0 7 [.int bst], cO v0 5 [.ref c0, .ref c1, .int on, .int (f_rec nx dt use2 src2 prt2 cnt2 (kp 3) p0 sq fl).2.1, .ref v1, .ref v2], cO c0 6 [.ref c2, .ref c3, .ref c4, .int (f_rec nx dt use2 src2 prt2 cnt2 (kp 3) p0 sq fl).2.2.2.2.2], cI K c2 10 (f_put src2 (f_rnew fl use2 src2 prt2 (kp 3) p0) (kp 3)), cI K c3 10 (f_put prt2 (f_rnew fl use2 src2 prt2 (kp 3) p0) p0), cZ K c4 10 (f_rec nx dt use2 src2 prt2 cnt2 (kp 3) p0 sq fl).2.2.2.2.1, cI K v1 10 (f_rec nx dt use2 src2 prt2 cnt2 (kp 3) p0 sq fl).2.2.1, cI K v2 10 (f_rec nx dt use2 src2 prt2 cnt2 (kp 3) p0 sq fl).2.2.2.1, cO c1 7 [.int sst]]) rfl ?_
    refine zx_aload_n (pc := 71) hF d_PS_deliver_71 rfl 2 rfl ?_
    refine zg_PS_16 (pc := 72) hF 0 rfl rfl d_PS_deliver_72 ?_
    refine zx_aload_n (pc := 75) hF d_PS_deliver_75 rfl 2 rfl ?_
    refine zg_PS_7 (pc := 76) hF 0 rfl rfl d_PS_deliver_76 ?_
    refine zx_aload (pc := 79) hF d_PS_deliver_79 1 rfl ?_
    refine zg_PS_207 (pc := 81) hF 6 rfl rfl d_PS_deliver_81 ?_
    refine zx_Vi (pc := 84) hF (As := []) (rest := [.ref kp0, .ref wi0]) (fun sz => M_Stp_next l D K (zM2 KB KS) t0 bst  sz) [8] rfl (by decide) (as := [t0]) rfl rfl (ws' := [cO ps0 0 [.ref dg0, .ref ba0, .ref sa0, .int (nI m), .ref kp0, .ref wi0, .int hkp, .int (nI b), .int (f_rec nx dt use2 src2 prt2 cnt2 (kp 3) p0 sq fl).1, .int (f_rec nx dt use2 src2 prt2 cnt2 (kp 3) p0 sq fl).2.1, .int tim], cI K kp0 5 kp, cO wi0 10 [.ref wi1], cI K wi1 16 w, cR KB ba0 B rb, cR KS sa0 n rs, cO o0 1 [.ref w0, .ref b0, .ref e0, .ref t0, .int live, .ref x0], cZ K x0 n cut, cO t0 7 [.int (f_next bst)], cO v0 5 [.ref c0, .ref c1, .int on, .int (f_rec nx dt use2 src2 prt2 cnt2 (kp 3) p0 sq fl).2.1, .ref v1, .ref v2], cO c0 6 [.ref c2, .ref c3, .ref c4, .int (f_rec nx dt use2 src2 prt2 cnt2 (kp 3) p0 sq fl).2.2.2.2.2], cI K c2 10 (f_put src2 (f_rnew fl use2 src2 prt2 (kp 3) p0) (kp 3)), cI K c3 10 (f_put prt2 (f_rnew fl use2 src2 prt2 (kp 3) p0) p0), cZ K c4 10 (f_rec nx dt use2 src2 prt2 cnt2 (kp 3) p0 sq fl).2.2.2.2.1, cI K v1 10 (f_rec nx dt use2 src2 prt2 cnt2 (kp 3) p0 sq fl).2.2.1, cI K v2 10 (f_rec nx dt use2 src2 prt2 cnt2 (kp 3) p0 sq fl).2.2.2.1, cO c1 7 [.int sst]]) rfl 0 7 rfl rfl rfl (cw_PS_211 hF.2.2.2.2.1 rfl rfl ⟨by decide, by decide⟩) rfl rfl (Nat.le_of_ble_eq_true rfl) d_PS_deliver_84 ⟨Nat.zero_le _, Nat.zero_le _⟩ ?_
    refine zx_iload_n (pc := 87) hF d_PS_deliver_87 rfl 3 rfl ?_
    refine zx_iload_n (pc := 88) hF d_PS_deliver_88 rfl 4 rfl ?_
    refine zx_Vv (pc := 89) hF (As := [.ref kp0, .int bst, .int (nI b), .int (nI q)]) (rest := []) (fun sz => M_Wir_putForward l D K (zM2 KB KS) wi0 wi1 w kp0 kp bst (nI b) (nI q)  sz) [2, 3, 1] rfl (by decide) (as := [wi0, wi1, kp0]) rfl rfl (ws' := [cO ps0 0 [.ref dg0, .ref ba0, .ref sa0, .int (nI m), .ref kp0, .ref wi0, .int hkp, .int (nI b), .int (f_rec nx dt use2 src2 prt2 cnt2 (kp 3) p0 sq fl).1, .int (f_rec nx dt use2 src2 prt2 cnt2 (kp 3) p0 sq fl).2.1, .int tim], cI K kp0 5 kp, cO wi0 10 [.ref wi1], cI K wi1 16 (f_fwd w kp bst (nI b) (nI q)), cR KB ba0 B rb, cR KS sa0 n rs, cO o0 1 [.ref w0, .ref b0, .ref e0, .ref t0, .int live, .ref x0], cZ K x0 n cut, cO t0 7 [.int (f_next bst)], cO v0 5 [.ref c0, .ref c1, .int on, .int (f_rec nx dt use2 src2 prt2 cnt2 (kp 3) p0 sq fl).2.1, .ref v1, .ref v2], cO c0 6 [.ref c2, .ref c3, .ref c4, .int (f_rec nx dt use2 src2 prt2 cnt2 (kp 3) p0 sq fl).2.2.2.2.2], cI K c2 10 (f_put src2 (f_rnew fl use2 src2 prt2 (kp 3) p0) (kp 3)), cI K c3 10 (f_put prt2 (f_rnew fl use2 src2 prt2 (kp 3) p0) p0), cZ K c4 10 (f_rec nx dt use2 src2 prt2 cnt2 (kp 3) p0 sq fl).2.2.2.2.1, cI K v1 10 (f_rec nx dt use2 src2 prt2 cnt2 (kp 3) p0 sq fl).2.2.1, cI K v2 10 (f_rec nx dt use2 src2 prt2 cnt2 (kp 3) p0 sq fl).2.2.2.1, cO c1 7 [.int sst]]) rfl 0 10 rfl rfl rfl (cw_PS_216 hF.2.2.2.2.1 rfl rfl ⟨by decide, by decide⟩) rfl rfl (Nat.le_of_ble_eq_true rfl) d_PS_deliver_89 ⟨Nat.zero_le _, Nat.zero_le _⟩ ?_
    refine zx_aload_n (pc := 92) hF d_PS_deliver_92 rfl 2 rfl ?_
    refine zg_PS_24 (pc := 93) hF 0 rfl rfl d_PS_deliver_93 ?_
    refine zx_if_ne (pc := 96) hF d_PS_deliver_96 (tgt := 109) rfl (fun h96 => ?_) (fun h96 => ?_)
    · refine zx_aload_n (pc := 109) hF d_PS_deliver_109 rfl 2 rfl ?_
      refine zg_PS_16 (pc := 110) hF 0 rfl rfl d_PS_deliver_110 ?_
      refine zx_aload (pc := 113) hF d_PS_deliver_113 0 rfl ?_
      refine zg_PS_223 (pc := 115) hF 9 rfl rfl d_PS_deliver_115 ?_
      refine zx_Vi (pc := 118) hF (As := []) (rest := [.ref wi0]) (fun sz => M_Stp_next l D K (zM2 KB KS) c1 sst  sz) [16] rfl (by decide) (as := [c1]) rfl rfl (ws' := [cO ps0 0 [.ref dg0, .ref ba0, .ref sa0, .int (nI m), .ref kp0, .ref wi0, .int hkp, .int (nI b), .int (f_rec nx dt use2 src2 prt2 cnt2 (kp 3) p0 sq fl).1, .int (f_rec nx dt use2 src2 prt2 cnt2 (kp 3) p0 sq fl).2.1, .int tim], cI K kp0 5 kp, cO wi0 10 [.ref wi1], cI K wi1 16 (f_fwd w kp bst (nI b) (nI q)), cR KB ba0 B rb, cR KS sa0 n rs, cO o0 1 [.ref w0, .ref b0, .ref e0, .ref t0, .int live, .ref x0], cZ K x0 n cut, cO t0 7 [.int (f_next bst)], cO v0 5 [.ref c0, .ref c1, .int on, .int (f_rec nx dt use2 src2 prt2 cnt2 (kp 3) p0 sq fl).2.1, .ref v1, .ref v2], cO c0 6 [.ref c2, .ref c3, .ref c4, .int (f_rec nx dt use2 src2 prt2 cnt2 (kp 3) p0 sq fl).2.2.2.2.2], cI K c2 10 (f_put src2 (f_rnew fl use2 src2 prt2 (kp 3) p0) (kp 3)), cI K c3 10 (f_put prt2 (f_rnew fl use2 src2 prt2 (kp 3) p0) p0), cZ K c4 10 (f_rec nx dt use2 src2 prt2 cnt2 (kp 3) p0 sq fl).2.2.2.2.1, cI K v1 10 (f_rec nx dt use2 src2 prt2 cnt2 (kp 3) p0 sq fl).2.2.1, cI K v2 10 (f_rec nx dt use2 src2 prt2 cnt2 (kp 3) p0 sq fl).2.2.2.1, cO c1 7 [.int (f_next sst)]]) rfl 0 7 rfl rfl rfl (cw_PS_211 hF.2.2.2.2.1 rfl rfl ⟨by decide, by decide⟩) rfl rfl (Nat.le_of_ble_eq_true rfl) d_PS_deliver_118 ⟨Nat.zero_le _, Nat.zero_le _⟩ ?_
      refine zx_aload_n (pc := 121) hF d_PS_deliver_121 rfl 2 rfl ?_
      refine zg_PS_7 (pc := 122) hF 0 rfl rfl d_PS_deliver_122 ?_
      refine zx_iconst (pc := 125) hF d_PS_deliver_125 k_i3 ?_
      refine zx_ialdn (pc := 126) hF (i := 3) 1 rfl (by omega) (by omega) d_PS_deliver_126 ?_
      refine zx_Vv (pc := 127) hF (As := [.int sst, .int (kp 3)]) (rest := []) (fun sz => M_Wir_putAnswer l D K (zM2 KB KS) wi0 wi1 (f_fwd w kp bst (nI b) (nI q)) sst (kp 3)  sz) [2, 3] rfl (by decide) (as := [wi0, wi1]) rfl rfl (ws' := [cO ps0 0 [.ref dg0, .ref ba0, .ref sa0, .int (nI m), .ref kp0, .ref wi0, .int hkp, .int (nI b), .int (f_rec nx dt use2 src2 prt2 cnt2 (kp 3) p0 sq fl).1, .int (f_rec nx dt use2 src2 prt2 cnt2 (kp 3) p0 sq fl).2.1, .int tim], cI K kp0 5 kp, cO wi0 10 [.ref wi1], cI K wi1 16 (f_ans (f_fwd w kp bst (nI b) (nI q)) sst (kp 3)), cR KB ba0 B rb, cR KS sa0 n rs, cO o0 1 [.ref w0, .ref b0, .ref e0, .ref t0, .int live, .ref x0], cZ K x0 n cut, cO t0 7 [.int (f_next bst)], cO v0 5 [.ref c0, .ref c1, .int on, .int (f_rec nx dt use2 src2 prt2 cnt2 (kp 3) p0 sq fl).2.1, .ref v1, .ref v2], cO c0 6 [.ref c2, .ref c3, .ref c4, .int (f_rec nx dt use2 src2 prt2 cnt2 (kp 3) p0 sq fl).2.2.2.2.2], cI K c2 10 (f_put src2 (f_rnew fl use2 src2 prt2 (kp 3) p0) (kp 3)), cI K c3 10 (f_put prt2 (f_rnew fl use2 src2 prt2 (kp 3) p0) p0), cZ K c4 10 (f_rec nx dt use2 src2 prt2 cnt2 (kp 3) p0 sq fl).2.2.2.2.1, cI K v1 10 (f_rec nx dt use2 src2 prt2 cnt2 (kp 3) p0 sq fl).2.2.1, cI K v2 10 (f_rec nx dt use2 src2 prt2 cnt2 (kp 3) p0 sq fl).2.2.2.1, cO c1 7 [.int (f_next sst)]]) rfl 0 10 rfl rfl rfl (cw_PS_224 hF.2.2.2.2.1 rfl rfl ⟨by decide, by decide⟩) rfl rfl (Nat.le_of_ble_eq_true rfl) d_PS_deliver_127 ⟨Nat.zero_le _, Nat.zero_le _⟩ ?_
      exact zx_vret (pc := 130) hF hr hlk (by simp only [f_dm, f_dt, f_ds, f_dw, f_dst, if_neg h39, if_neg h96, ↓reduceIte]) d_PS_deliver_130
    · refine zx_aload_n (pc := 99) hF d_PS_deliver_99 rfl 2 rfl ?_
      refine zg_PS_16 (pc := 100) hF 0 rfl rfl d_PS_deliver_100 ?_
      refine zx_Vv (pc := 103) hF (As := []) (rest := []) (fun sz => M_Wir_clearAnswer l D K (zM2 KB KS) wi0 wi1 (f_fwd w kp bst (nI b) (nI q))  sz) [2, 3] rfl (by decide) (as := [wi0, wi1]) rfl rfl (ws' := [cO ps0 0 [.ref dg0, .ref ba0, .ref sa0, .int (nI m), .ref kp0, .ref wi0, .int hkp, .int (nI b), .int (f_rec nx dt use2 src2 prt2 cnt2 (kp 3) p0 sq fl).1, .int (f_rec nx dt use2 src2 prt2 cnt2 (kp 3) p0 sq fl).2.1, .int tim], cI K kp0 5 kp, cO wi0 10 [.ref wi1], cI K wi1 16 (f_zero 5 11 (f_fwd w kp bst (nI b) (nI q))), cR KB ba0 B rb, cR KS sa0 n rs, cO o0 1 [.ref w0, .ref b0, .ref e0, .ref t0, .int live, .ref x0], cZ K x0 n cut, cO t0 7 [.int (f_next bst)], cO v0 5 [.ref c0, .ref c1, .int on, .int (f_rec nx dt use2 src2 prt2 cnt2 (kp 3) p0 sq fl).2.1, .ref v1, .ref v2], cO c0 6 [.ref c2, .ref c3, .ref c4, .int (f_rec nx dt use2 src2 prt2 cnt2 (kp 3) p0 sq fl).2.2.2.2.2], cI K c2 10 (f_put src2 (f_rnew fl use2 src2 prt2 (kp 3) p0) (kp 3)), cI K c3 10 (f_put prt2 (f_rnew fl use2 src2 prt2 (kp 3) p0) p0), cZ K c4 10 (f_rec nx dt use2 src2 prt2 cnt2 (kp 3) p0 sq fl).2.2.2.2.1, cI K v1 10 (f_rec nx dt use2 src2 prt2 cnt2 (kp 3) p0 sq fl).2.2.1, cI K v2 10 (f_rec nx dt use2 src2 prt2 cnt2 (kp 3) p0 sq fl).2.2.2.1, cO c1 7 [.int sst]]) rfl 0 10 rfl rfl rfl (cw_PS_220 hF.2.2.2.2.1 rfl rfl ⟨by decide, by decide⟩) rfl rfl (Nat.le_of_ble_eq_true rfl) d_PS_deliver_103 ⟨Nat.zero_le _, Nat.zero_le _⟩ ?_
      refine zx_goto (pc := 106) hF d_PS_deliver_106 (tgt := 130) rfl ?_
      exact zx_vret (pc := 130) hF hr hlk (by simp only [f_dm, f_dt, f_ds, f_dw, f_dst, if_neg h39, if_pos h96, ↓reduceIte]) d_PS_deliver_130
set_option maxRecDepth 20000 in
theorem M_PS_segment_k (l : Launch) (D : va_G) (K : Nat → ClassId) (M : List (ClassId × FieldType)) (ps0 : Nat) (dg0 : Nat) (ba0 : Nat) (sa0 : Nat) (m : Nat) (kp0 : Nat) (wi0 : Nat) (hkp : Int32) (lca : Int32) (lre : Int32) (lta : Int32) (tim : Int32) (p0 : Int32) (sq : Int32) (fl : Int32) (hf : f_kind fl = 0) (sz : Nat) : zM l y_PS_segment (zT y_PS_segment b_PS_segment 9 (some .int)) (zR 6 141) 0 0 D K M [.ref ps0, .int p0, .int sq, .int fl] [cO ps0 0 [.ref dg0, .ref ba0, .ref sa0, .int (nI m), .ref kp0, .ref wi0, .int hkp, .int lca, .int lre, .int lta, .int tim]] sz (zQi D K M (-4) [cO ps0 0 [.ref dg0, .ref ba0, .ref sa0, .int (nI m), .ref kp0, .ref wi0, .int hkp, .int lca, .int lre, .int lta, .int tim]]) := by
  refine zx_head (by decide) (Nat.le_of_ble_eq_true rfl) ?_
  intro _ _ _ _ _ _ _ _ _ hF hr hlk hnm
  refine zx_iload_n (pc := 0) hF d_PS_segment_0 rfl 3 rfl ?_
  refine zx_Si (pc := 1) hF (As := [.int fl]) (rest := []) (fun sz => M_PS_isKind l D K M fl  sz) [] rfl List.nodup_nil (as := []) rfl rfl (ws' := [cO ps0 0 [.ref dg0, .ref ba0, .ref sa0, .int (nI m), .ref kp0, .ref wi0, .int hkp, .int lca, .int lre, .int lta, .int tim]]) rfl (cw_PS_86 hF.2.2.2.2.1 rfl rfl ⟨by decide, by decide⟩) rfl rfl (Nat.le_of_ble_eq_true rfl) d_PS_segment_1 ⟨Nat.zero_le _, Nat.zero_le _⟩ ?_
  refine zx_if_ne (pc := 4) hF d_PS_segment_4 (tgt := 10) rfl (fun h4 => ?_) (fun h4 => ?_)
  · exact absurd hf h4
  · refine zx_bipush (pc := 7) hF d_PS_segment_7 k_bm4 ?_
    exact zx_iret (pc := 9) hF hr hlk (by first | rfl | (simp only [if_pos h4]; done) | (simp only [h4, ↓reduceIte]; done) | simp [h4]) (by first | rfl | (simp only [if_pos h4]; done) | (simp only [h4, ↓reduceIte]; done) | simp [h4]) d_PS_segment_9
set_option maxRecDepth 20000 in
theorem M_PS_segment_h (l : Launch) (D : va_G) (K : Nat → ClassId) (M : List (ClassId × FieldType)) (ps0 : Nat) (dg0 : Nat) (ba0 : Nat) (sa0 : Nat) (m : Nat) (kp0 : Nat) (wi0 : Nat) (hkp : Int32) (lca : Int32) (lre : Int32) (lta : Int32) (tim : Int32) (p0 : Int32) (sq : Int32) (fl : Int32) (hf : ¬ f_kind fl = 0) (hk : hkp = 0) (sz : Nat) : zM l y_PS_segment (zT y_PS_segment b_PS_segment 9 (some .int)) (zR 6 141) 0 0 D K M [.ref ps0, .int p0, .int sq, .int fl] [cO ps0 0 [.ref dg0, .ref ba0, .ref sa0, .int (nI m), .ref kp0, .ref wi0, .int hkp, .int lca, .int lre, .int lta, .int tim]] sz (zQi D K M (-2) [cO ps0 0 [.ref dg0, .ref ba0, .ref sa0, .int (nI m), .ref kp0, .ref wi0, .int hkp, .int lca, .int lre, .int lta, .int tim]]) := by
  refine zx_head (by decide) (Nat.le_of_ble_eq_true rfl) ?_
  intro _ _ _ _ _ _ _ _ _ hF hr hlk hnm
  refine zx_iload_n (pc := 0) hF d_PS_segment_0 rfl 3 rfl ?_
  refine zx_Si (pc := 1) hF (As := [.int fl]) (rest := []) (fun sz => M_PS_isKind l D K M fl  sz) [] rfl List.nodup_nil (as := []) rfl rfl (ws' := [cO ps0 0 [.ref dg0, .ref ba0, .ref sa0, .int (nI m), .ref kp0, .ref wi0, .int hkp, .int lca, .int lre, .int lta, .int tim]]) rfl (cw_PS_86 hF.2.2.2.2.1 rfl rfl ⟨by decide, by decide⟩) rfl rfl (Nat.le_of_ble_eq_true rfl) d_PS_segment_1 ⟨Nat.zero_le _, Nat.zero_le _⟩ ?_
  refine zx_if_ne (pc := 4) hF d_PS_segment_4 (tgt := 10) rfl (fun h4 => ?_) (fun h4 => ?_)
  · refine zx_aload_n (pc := 10) hF d_PS_segment_10 rfl 0 rfl ?_
    refine zg_PS_82 (pc := 11) hF 0 rfl rfl d_PS_segment_11 ?_
    refine zx_if_ne (pc := 14) hF d_PS_segment_14 (tgt := 20) rfl (fun h14 => ?_) (fun h14 => ?_)
    · exact absurd hk h14
    · refine zx_bipush (pc := 17) hF d_PS_segment_17 k_bm2 ?_
      exact zx_iret (pc := 19) hF hr hlk (by first | rfl | (simp only [if_neg h4, if_pos h14]; done) | (simp only [h4, h14, ↓reduceIte]; done) | simp [h4, h14]) (by first | rfl | (simp only [if_neg h4, if_pos h14]; done) | (simp only [h4, h14, ↓reduceIte]; done) | simp [h4, h14]) d_PS_segment_19
  · exact absurd h4 hf
set_option maxRecDepth 20000 in
theorem M_PS_segment_r (l : Launch) (D : va_G) (K : Nat → ClassId) (KB KS : ClassId) (ps0 : Nat) (dg0 : Nat) (ba0 : Nat) (sa0 : Nat) (m : Nat) (kp0 : Nat) (wi0 : Nat) (hkp : Int32) (lca : Int32) (lre : Int32) (lta : Int32) (tim : Int32) (B : Nat) (rb : Nat → Option Nat) (k0 : Int64) (k1 : Int64) (dv : f_4) (kp : Nat → Int32) (lv : Nat → Int32) (T : va_W) (p0 : Int32) (sq : Int32) (fl : Int32) (hB : B ≤ 4) (hf : ¬ f_kind fl = 0) (hk : ¬ hkp = 0) (hT : f_TB rb (cI K kp0 5 kp :: T) B lv) (hr0 : f_route lv B (f_dig k0 k1 (f_join (kp 3) p0)) = -1) (sz : Nat) : zM l y_PS_segment (zT y_PS_segment b_PS_segment 9 (some .int)) (zR 6 141) 0 0 D K (zM2 KB KS) [.ref ps0, .int p0, .int sq, .int fl] (cO ps0 0 [.ref dg0, .ref ba0, .ref sa0, .int (nI m), .ref kp0, .ref wi0, .int hkp, .int lca, .int lre, .int lta, .int tim] :: cR KB ba0 B rb :: cO dg0 2 [.long k0, .long k1, .long dv.1, .long dv.2.1, .long dv.2.2.1, .long dv.2.2.2] :: cI K kp0 5 kp :: T) sz (zQi D K (zM2 KB KS) (-3) (cO ps0 0 [.ref dg0, .ref ba0, .ref sa0, .int (nI m), .ref kp0, .ref wi0, .int hkp, .int lca, .int lre, .int lta, .int tim] :: cR KB ba0 B rb :: cO dg0 2 [.long k0, .long k1, .long (f_end k0 k1 (f_join (kp 3) p0)).1, .long (f_end k0 k1 (f_join (kp 3) p0)).2.1, .long (f_end k0 k1 (f_join (kp 3) p0)).2.2.1, .long (f_end k0 k1 (f_join (kp 3) p0)).2.2.2] :: cI K kp0 5 kp :: T)) := by
  refine zx_head (by decide) (Nat.le_of_ble_eq_true rfl) ?_
  intro _ _ _ _ _ _ _ _ _ hF hr hlk hnm
  refine zx_iload_n (pc := 0) hF d_PS_segment_0 rfl 3 rfl ?_
  refine zx_Si (pc := 1) hF (As := [.int fl]) (rest := []) (fun sz => M_PS_isKind l D K (zM2 KB KS) fl  sz) [] rfl List.nodup_nil (as := []) rfl rfl (ws' := (cO ps0 0 [.ref dg0, .ref ba0, .ref sa0, .int (nI m), .ref kp0, .ref wi0, .int hkp, .int lca, .int lre, .int lta, .int tim] :: cR KB ba0 B rb :: cO dg0 2 [.long k0, .long k1, .long dv.1, .long dv.2.1, .long dv.2.2.1, .long dv.2.2.2] :: cI K kp0 5 kp :: T)) rfl (cw_PS_86 hF.2.2.2.2.1 rfl rfl ⟨by decide, by decide⟩) rfl rfl (Nat.le_of_ble_eq_true rfl) d_PS_segment_1 ⟨Nat.zero_le _, Nat.zero_le _⟩ ?_
  refine zx_if_ne (pc := 4) hF d_PS_segment_4 (tgt := 10) rfl (fun h4 => ?_) (fun h4 => ?_)
  · refine zx_aload_n (pc := 10) hF d_PS_segment_10 rfl 0 rfl ?_
    refine zg_PS_82 (pc := 11) hF 0 rfl rfl d_PS_segment_11 ?_
    refine zx_if_ne (pc := 14) hF d_PS_segment_14 (tgt := 20) rfl (fun h14 => ?_) (fun h14 => ?_)
    · refine zx_aload_n (pc := 20) hF d_PS_segment_20 rfl 0 rfl ?_
      refine zg_PS_7 (pc := 21) hF 0 rfl rfl d_PS_segment_21 ?_
      refine zx_iconst (pc := 24) hF d_PS_segment_24 k_i3 ?_
      refine zx_ialdn (pc := 25) hF (i := 3) 3 rfl (by omega) (by omega) d_PS_segment_25 ?_
      refine zx_istore (pc := 26) hF (lv' := [(4, .int (kp 3)), (0, .ref ps0), (1, .int p0), (2, .int sq), (3, .int fl)]) d_PS_segment_26 (by decide) rfl ?_
      refine zx_aload_n (pc := 28) hF d_PS_segment_28 rfl 1 rfl ?_
      refine zg_PS_48 (pc := 29) hF 0 rfl rfl d_PS_segment_29 ?_
      refine zx_iload (pc := 32) hF d_PS_segment_32 0 rfl ?_
      refine zx_iload_n (pc := 34) hF d_PS_segment_34 rfl 2 rfl ?_
      refine zx_Sl (pc := 35) hF (As := [.int (kp 3), .int p0]) (rest := [.ref dg0]) (fun sz => M_PS_joined l D K (zM2 KB KS) (kp 3) p0  sz) [] rfl List.nodup_nil (as := []) rfl rfl (ws' := (cO ps0 0 [.ref dg0, .ref ba0, .ref sa0, .int (nI m), .ref kp0, .ref wi0, .int hkp, .int lca, .int lre, .int lta, .int tim] :: cR KB ba0 B rb :: cO dg0 2 [.long k0, .long k1, .long dv.1, .long dv.2.1, .long dv.2.2.1, .long dv.2.2.2] :: cI K kp0 5 kp :: T)) rfl (cw_PS_90 hF.2.2.2.2.1 rfl rfl ⟨by decide, by decide⟩) rfl rfl (Nat.le_of_ble_eq_true rfl) d_PS_segment_35 ⟨Nat.zero_le _, Nat.zero_le _⟩ ?_
      refine zx_Vl (pc := 38) hF (As := [.long (f_join (kp 3) p0)]) (rest := []) (fun sz => M_Dig_digestOf l D K (zM2 KB KS) dg0 k0 k1 dv.1 dv.2.1 dv.2.2.1 dv.2.2.2 (f_join (kp 3) p0)  sz) [2] rfl (by decide) (as := [dg0]) rfl rfl (ws' := (cO ps0 0 [.ref dg0, .ref ba0, .ref sa0, .int (nI m), .ref kp0, .ref wi0, .int hkp, .int lca, .int lre, .int lta, .int tim] :: cR KB ba0 B rb :: cO dg0 2 [.long k0, .long k1, .long (f_end k0 k1 (f_join (kp 3) p0)).1, .long (f_end k0 k1 (f_join (kp 3) p0)).2.1, .long (f_end k0 k1 (f_join (kp 3) p0)).2.2.1, .long (f_end k0 k1 (f_join (kp 3) p0)).2.2.2] :: cI K kp0 5 kp :: T)) rfl 0 2 rfl rfl rfl (cw_PS_94 hF.2.2.2.2.1 rfl rfl ⟨by decide, by decide⟩) rfl rfl (Nat.le_of_ble_eq_true rfl) d_PS_segment_38 ⟨Nat.zero_le _, Nat.zero_le _⟩ ?_
      refine zx_lstore (pc := 41) hF (lv' := [(5, .long (f_dig k0 k1 (f_join (kp 3) p0))), (4, .int (kp 3)), (0, .ref ps0), (1, .int p0), (2, .int sq), (3, .int fl)]) d_PS_segment_41 (by decide) rfl ?_
      refine zx_aload_n (pc := 43) hF d_PS_segment_43 rfl 2 rfl ?_
      refine zx_lload (pc := 44) hF d_PS_segment_44 0 rfl ?_
      refine zx_WVi (pc := 46) hF (As := [.long (f_dig k0 k1 (f_join (kp 3) p0))]) (rest := []) (w1 := (cO ps0 0 [.ref dg0, .ref ba0, .ref sa0, .int (nI m), .ref kp0, .ref wi0, .int hkp, .int lca, .int lre, .int lta, .int tim] :: cR KB ba0 B rb :: cO dg0 2 [.long k0, .long k1, .long (f_end k0 k1 (f_join (kp 3) p0)).1, .long (f_end k0 k1 (f_join (kp 3) p0)).2.1, .long (f_end k0 k1 (f_join (kp 3) p0)).2.2.1, .long (f_end k0 k1 (f_join (kp 3) p0)).2.2.2] :: cI K kp0 5 kp :: T)) (fun sz => M_PS_route l D K KB KS ps0 dg0 ba0 sa0 m kp0 wi0 hkp lca lre lta tim B rb k0 k1 (f_end k0 k1 (f_join (kp 3) p0)) lv (cI K kp0 5 kp :: T) (f_dig k0 k1 (f_join (kp 3) p0)) (by first | assumption | omega) (by first | assumption | omega) sz) 0 0 rfl rfl rfl (cw_PS_98 hF.2.2.2.2.1 rfl rfl ⟨by decide, by decide⟩) rfl rfl (Nat.le_of_ble_eq_true rfl) d_PS_segment_46 ⟨Nat.zero_le _, Nat.zero_le _⟩ ?_
      refine zx_istore (pc := 49) hF (lv' := [(7, .int (f_route lv B (f_dig k0 k1 (f_join (kp 3) p0)))), (5, .long (f_dig k0 k1 (f_join (kp 3) p0))), (4, .int (kp 3)), (0, .ref ps0), (1, .int p0), (2, .int sq), (3, .int fl)]) d_PS_segment_49 (by decide) rfl ?_
      refine zx_iload (pc := 51) hF d_PS_segment_51 0 rfl ?_
      refine zx_iconst (pc := 53) hF d_PS_segment_53 k_im1 ?_
      refine zx_icmp_ne (pc := 54) hF d_PS_segment_54 (tgt := 60) rfl (fun h54 => ?_) (fun h54 => ?_)
      · exact absurd hr0 h54
      · refine zx_bipush (pc := 57) hF d_PS_segment_57 k_bm3 ?_
        exact zx_iret (pc := 59) hF hr hlk (by first | rfl | (simp only [if_neg h4, if_neg h14, if_pos h54]; done) | (simp only [h4, h14, h54, ↓reduceIte]; done) | simp [h4, h14, h54]) (by first | rfl | (simp only [if_neg h4, if_neg h14, if_pos h54]; done) | (simp only [h4, h14, h54, ↓reduceIte]; done) | simp [h4, h14, h54]) d_PS_segment_59
    · exact absurd h14 hk
  · exact absurd h4 hf
