theorem and31 (v : Int32) : ∃ k, k < 32 ∧ v &&& 31 = nI k := ⟨v.toBitVec.toNat % 32, Nat.mod_lt _ (by omega), pk_and v 5 (by decide)⟩
theorem law_switch {p : Program} {l : Launch} {e : Env} {s : State} {mm : MethodId} {args : Array Value} {below : List Frame} {meth : Method} {c : Code} {cells slots : Nat} {Q : State → Prop} {D : va_G} {K : Nat → ClassId} {KB KS : ClassId} {A : Nat → Prop} (hF : zF p s mm args c code 4 R_Law D K (zM2 KB KS) A) {bS L : Nat} {xs : Nat → Int32} (hX : va_X bS L xs s s.heap) (hbS : bS < s.heap.size) (hA : ¬ A bS) {i : Nat} (hi : i + 6 ≤ L) (hL : L ≤ 3076) (hf : cells ≤ room_1.cells ∧ slots ≤ room_1.slots) {ad : Nat → Nat} {aB aS : Nat → Nat → Nat} {B n m : Nat} {k0 k1 : Int64} {fst stp : Nat → Int32} {fN sN : Nat → Nat} (hB : 0 < B ∧ B ≤ 4) (hn : 0 < n ∧ n ≤ 8) (hm : 7 ≤ m ∧ m ≤ 101) (hLN : f_LN fst stp fN sN m n) (hs : f_sur fN sN m n) (u : Nat → Int32) (a : Nat → Nat → Int32) (wd : Nat → Int64) (x : Nat → Int32) (y : Nat → Nat → Int32) (dv : f_4) (bs : Nat → Nat → Int32) (bf : Nat → Nat → Nat → Int32) (ss : Nat → Nat → Int32) (sf : Nat → Nat → Nat → Int32) (h : rA fN sN m n B u a x y bs bf ss sf) (k : ∀ (u : Nat → Int32) (a : Nat → Nat → Int32) (wd : Nat → Int64) (x : Nat → Int32) (y : Nat → Nat → Int32) (dv : f_4) (bs : Nat → Nat → Int32) (bf : Nat → Nat → Nat → Int32) (ss : Nat → Nat → Int32) (sf : Nat → Nat → Nat → Int32), rA fN sN m n B u a x y bs bf ss sf → zW p l e room_1 s mm args below meth c D A cells slots Q 4 (mC K ad B n m k0 k1 fst stp u a wd ++ (cC K KB KS ad aB aS B n m k0 k1 fst stp x y dv ++ (bLs K (ad 31) m n aB bs bf (List.range B) ++ sLs K aS ss sf (List.range n)))) [(3, .int (nI i)), (2, .ref (ad 0)), (1, .ref (ad 26)), (0, .ref bS)] 830 []) : zW p l e room_1 s mm args below meth c D A cells slots Q 4 (mC K ad B n m k0 k1 fst stp u a wd ++ (cC K KB KS ad aB aS B n m k0 k1 fst stp x y dv ++ (bLs K (ad 31) m n aB bs bf (List.range B) ++ sLs K aS ss sf (List.range n)))) [(3, .int (nI i)), (2, .ref (ad 0)), (1, .ref (ad 26)), (0, .ref bS)] 67 [] := by
  refine zx_aload_n (pc := 67) hF d_Law_law_67 rfl 3 rfl ?_
  refine zx_iload_n (pc := 68) hF d_Law_law_68 rfl 0 rfl ?_
  refine zx_sld (pc := 69) hF hX hbS hA (by omega : i < L) (by omega) d_Law_law_69 ?_
  refine zx_bipush (pc := 70) (v := 31) hF d_Law_law_70 rfl ?_
  refine zx_iand (pc := 72) hF d_Law_law_72 ?_
  obtain ⟨j, hj, e⟩ := and31 (xs i)
  refine zx_topi (nI j) e ?_
  match j, hj with
  | 0, _ => exact zx_tsIn (pc := 73) hF d_Law_law_73 (by decide) (by decide) (off := 91) rfl (tgt := 164) rfl (case_0 hF hX hbS hA hi hL hf hB hn hm hLN hs u a wd x y dv bs bf ss sf h k)
  | 1, _ => exact zx_tsIn (pc := 73) hF d_Law_law_73 (by decide) (by decide) (off := 154) rfl (tgt := 227) rfl (case_1 hF hX hbS hA hi hL hf hB hn hm hLN hs u a wd x y dv bs bf ss sf h k)
  | 2, _ => exact zx_tsIn (pc := 73) hF d_Law_law_73 (by decide) (by decide) (off := 217) rfl (tgt := 290) rfl (case_2 hF hX hbS hA hi hL hf hB hn hm hLN hs u a wd x y dv bs bf ss sf h k)
  | 3, _ => exact zx_tsIn (pc := 73) hF d_Law_law_73 (by decide) (by decide) (off := 260) rfl (tgt := 333) rfl (case_3 hF hX hbS hA hi hL hf hB hn hm hLN hs u a wd x y dv bs bf ss sf h k)
  | 4, _ => exact zx_tsIn (pc := 73) hF d_Law_law_73 (by decide) (by decide) (off := 273) rfl (tgt := 346) rfl (case_4 hF hX hbS hA hi hL hf hB hn hm hLN hs u a wd x y dv bs bf ss sf h k)
  | 5, _ => exact zx_tsIn (pc := 73) hF d_Law_law_73 (by decide) (by decide) (off := 286) rfl (tgt := 359) rfl (case_5 hF hX hbS hA hi hL hf hB hn hm hLN hs u a wd x y dv bs bf ss sf h k)
  | 6, _ => exact zx_tsIn (pc := 73) hF d_Law_law_73 (by decide) (by decide) (off := 299) rfl (tgt := 372) rfl (case_6 hF hX hbS hA hi hL hf hB hn hm hLN hs u a wd x y dv bs bf ss sf h k)
  | 7, _ => exact zx_tsIn (pc := 73) hF d_Law_law_73 (by decide) (by decide) (off := 322) rfl (tgt := 395) rfl (case_7 hF hX hbS hA hi hL hf hB hn hm hLN hs u a wd x y dv bs bf ss sf h k)
  | 8, _ => exact zx_tsIn (pc := 73) hF d_Law_law_73 (by decide) (by decide) (off := 356) rfl (tgt := 429) rfl (case_8 hF hX hbS hA hi hL hf hB hn hm hLN hs u a wd x y dv bs bf ss sf h k)
  | 9, _ => exact zx_tsIn (pc := 73) hF d_Law_law_73 (by decide) (by decide) (off := 389) rfl (tgt := 462) rfl (case_9 hF hX hbS hA hi hL hf hB hn hm hLN hs u a wd x y dv bs bf ss sf h k)
  | 10, _ => exact zx_tsIn (pc := 73) hF d_Law_law_73 (by decide) (by decide) (off := 422) rfl (tgt := 495) rfl (case_10 hF hX hbS hA hi hL hf hB hn hm hLN hs u a wd x y dv bs bf ss sf h k)
  | 11, _ => exact zx_tsIn (pc := 73) hF d_Law_law_73 (by decide) (by decide) (off := 445) rfl (tgt := 518) rfl (case_11 hF hX hbS hA hi hL hf hB hn hm hLN hs u a wd x y dv bs bf ss sf h k)
  | 12, _ => exact zx_tsIn (pc := 73) hF d_Law_law_73 (by decide) (by decide) (off := 494) rfl (tgt := 567) rfl (case_12 hF hX hbS hA hi hL hf hB hn hm hLN hs u a wd x y dv bs bf ss sf h k)
  | 13, _ => exact zx_tsIn (pc := 73) hF d_Law_law_73 (by decide) (by decide) (off := 543) rfl (tgt := 616) rfl (case_13 hF hX hbS hA hi hL hf hB hn hm hLN hs u a wd x y dv bs bf ss sf h k)
  | 14, _ => exact zx_tsIn (pc := 73) hF d_Law_law_73 (by decide) (by decide) (off := 602) rfl (tgt := 675) rfl (case_14 hF hX hbS hA hi hL hf hB hn hm hLN hs u a wd x y dv bs bf ss sf h k)
  | 15, _ => exact zx_tsIn (pc := 73) hF d_Law_law_73 (by decide) (by decide) (off := 625) rfl (tgt := 698) rfl (case_15 hF hX hbS hA hi hL hf hB hn hm hLN hs u a wd x y dv bs bf ss sf h k)
  | 16, _ => exact zx_tsIn (pc := 73) hF d_Law_law_73 (by decide) (by decide) (off := 658) rfl (tgt := 731) rfl (case_16 hF hX hbS hA hi hL hf hB hn hm hLN hs u a wd x y dv bs bf ss sf h k)
  | 17, _ => exact zx_tsIn (pc := 73) hF d_Law_law_73 (by decide) (by decide) (off := 681) rfl (tgt := 754) rfl (case_17 hF hX hbS hA hi hL hf hB hn hm hLN hs u a wd x y dv bs bf ss sf h k)
  | 18, _ => exact zx_tsIn (pc := 73) hF d_Law_law_73 (by decide) (by decide) (off := 724) rfl (tgt := 797) rfl (case_18 hF hX hbS hA hi hL hf hB hn hm hLN hs u a wd x y dv bs bf ss sf h k)
  | 19, _ => exact zx_tsOut (pc := 73) hF d_Law_law_73 (Or.inr (by decide)) (tgt := 830) rfl (k u a wd x y dv bs bf ss sf h)
  | 20, _ => exact zx_tsOut (pc := 73) hF d_Law_law_73 (Or.inr (by decide)) (tgt := 830) rfl (k u a wd x y dv bs bf ss sf h)
  | 21, _ => exact zx_tsOut (pc := 73) hF d_Law_law_73 (Or.inr (by decide)) (tgt := 830) rfl (k u a wd x y dv bs bf ss sf h)
  | 22, _ => exact zx_tsOut (pc := 73) hF d_Law_law_73 (Or.inr (by decide)) (tgt := 830) rfl (k u a wd x y dv bs bf ss sf h)
  | 23, _ => exact zx_tsOut (pc := 73) hF d_Law_law_73 (Or.inr (by decide)) (tgt := 830) rfl (k u a wd x y dv bs bf ss sf h)
  | 24, _ => exact zx_tsOut (pc := 73) hF d_Law_law_73 (Or.inr (by decide)) (tgt := 830) rfl (k u a wd x y dv bs bf ss sf h)
  | 25, _ => exact zx_tsOut (pc := 73) hF d_Law_law_73 (Or.inr (by decide)) (tgt := 830) rfl (k u a wd x y dv bs bf ss sf h)
  | 26, _ => exact zx_tsOut (pc := 73) hF d_Law_law_73 (Or.inr (by decide)) (tgt := 830) rfl (k u a wd x y dv bs bf ss sf h)
  | 27, _ => exact zx_tsOut (pc := 73) hF d_Law_law_73 (Or.inr (by decide)) (tgt := 830) rfl (k u a wd x y dv bs bf ss sf h)
  | 28, _ => exact zx_tsOut (pc := 73) hF d_Law_law_73 (Or.inr (by decide)) (tgt := 830) rfl (k u a wd x y dv bs bf ss sf h)
  | 29, _ => exact zx_tsOut (pc := 73) hF d_Law_law_73 (Or.inr (by decide)) (tgt := 830) rfl (k u a wd x y dv bs bf ss sf h)
  | 30, _ => exact zx_tsOut (pc := 73) hF d_Law_law_73 (Or.inr (by decide)) (tgt := 830) rfl (k u a wd x y dv bs bf ss sf h)
  | 31, _ => exact zx_tsOut (pc := 73) hF d_Law_law_73 (Or.inr (by decide)) (tgt := 830) rfl (k u a wd x y dv bs bf ss sf h)
  | _ + 32, z => exact absurd z (by omega)
theorem gt_no {i L : Nat} (hi : i ≤ 3100) (hL : L ≤ 3076) (h : ¬ nI L - 6 < nI i) : i + 6 ≤ L := by
  rw [il, nI_toInt (by omega), Int32.toInt_sub, nI_toInt (by omega), show (6 : Int32).toInt = 6 from rfl, Int.bmod_eq_of_le (by omega) (by omega)] at h
  omega
theorem law_loop {p : Program} {l : Launch} {e : Env} {s : State} {mm : MethodId} {args : Array Value} {below : List Frame} {meth : Method} {c : Code} {cells slots : Nat} {Q : State → Prop} {D : va_G} {K : Nat → ClassId} {KB KS : ClassId} {A : Nat → Prop} (hF : zF p s mm args c code 4 R_Law D K (zM2 KB KS) A) {bS L : Nat} {xs : Nat → Int32} (hX : va_X bS L xs s s.heap) (hbS : bS < s.heap.size) (hA : ¬ A bS) (hL : L ≤ 3076) (hf : cells ≤ room_1.cells ∧ slots ≤ room_1.slots) {ad : Nat → Nat} {aB aS : Nat → Nat → Nat} {B n m : Nat} {k0 k1 : Int64} {fst stp : Nat → Int32} {fN sN : Nat → Nat} (hB : 0 < B ∧ B ≤ 4) (hn : 0 < n ∧ n ≤ 8) (hm : 7 ≤ m ∧ m ≤ 101) (hLN : f_LN fst stp fN sN m n) (hs : f_sur fN sN m n) (kE : ∀ i (u : Nat → Int32) (a : Nat → Nat → Int32) (wd : Nat → Int64) (x : Nat → Int32) (y : Nat → Nat → Int32) (dv : f_4) (bs : Nat → Nat → Int32) (bf : Nat → Nat → Nat → Int32) (ss : Nat → Nat → Int32) (sf : Nat → Nat → Nat → Int32), zW p l e room_1 s mm args below meth c D A cells slots Q 4 (mC K ad B n m k0 k1 fst stp u a wd ++ (cC K KB KS ad aB aS B n m k0 k1 fst stp x y dv ++ (bLs K (ad 31) m n aB bs bf (List.range B) ++ sLs K aS ss sf (List.range n)))) [(3, .int (nI i)), (2, .ref (ad 0)), (1, .ref (ad 26)), (0, .ref bS)] 836 []) : ∀ (f i : Nat), L ≤ i + 5 + f → i ≤ 3100 → ∀ (u : Nat → Int32) (a : Nat → Nat → Int32) (wd : Nat → Int64) (x : Nat → Int32) (y : Nat → Nat → Int32) (dv : f_4) (bs : Nat → Nat → Int32) (bf : Nat → Nat → Nat → Int32) (ss : Nat → Nat → Int32) (sf : Nat → Nat → Nat → Int32), rA fN sN m n B u a x y bs bf ss sf → zW p l e room_1 s mm args below meth c D A cells slots Q 4 (mC K ad B n m k0 k1 fst stp u a wd ++ (cC K KB KS ad aB aS B n m k0 k1 fst stp x y dv ++ (bLs K (ad 31) m n aB bs bf (List.range B) ++ sLs K aS ss sf (List.range n)))) [(3, .int (nI i)), (2, .ref (ad 0)), (1, .ref (ad 26)), (0, .ref bS)] 58 [] := by
  intro f
  induction f with
  | zero =>
    intro i h5 hi u a wd x y dv bs bf ss sf h
    refine zx_iload_n (pc := 58) hF d_Law_law_58 rfl 0 rfl ?_
    refine zx_aload_n (pc := 59) hF d_Law_law_59 rfl 3 rfl ?_
    refine zx_slen (pc := 60) hF hX hbS hA d_Law_law_60 ?_
    refine zx_bipush (pc := 61) (v := 6) hF d_Law_law_61 rfl ?_
    refine zx_isub (pc := 63) hF d_Law_law_63 ?_
    refine zx_icmp_gt (pc := 64) hF d_Law_law_64 (tgt := 836) rfl (fun _ => kE _ _ _ _ _ _ _ _ _ _ _) (fun z => ?_)
    exact absurd (gt_no hi hL z) (by omega)
  | succ f ih =>
    intro i h5 hi u a wd x y dv bs bf ss sf h
    refine zx_iload_n (pc := 58) hF d_Law_law_58 rfl 0 rfl ?_
    refine zx_aload_n (pc := 59) hF d_Law_law_59 rfl 3 rfl ?_
    refine zx_slen (pc := 60) hF hX hbS hA d_Law_law_60 ?_
    refine zx_bipush (pc := 61) (v := 6) hF d_Law_law_61 rfl ?_
    refine zx_isub (pc := 63) hF d_Law_law_63 ?_
    refine zx_icmp_gt (pc := 64) hF d_Law_law_64 (tgt := 836) rfl (fun _ => kE _ _ _ _ _ _ _ _ _ _ _) (fun z => ?_)
    have h6 := gt_no hi hL z
    refine law_switch hF hX hbS hA h6 hL hf hB hn hm hLN hs u a wd x y dv bs bf ss sf h ?_
    intro u a wd x y dv bs bf ss sf h
    refine zx_iinc (pc := 830) (v := nI (i + 6)) (lv' := [(3, .int (nI (i + 6))), (2, .ref (ad 0)), (1, .ref (ad 26)), (0, .ref bS)]) hF d_Law_law_830 0 rfl (nI_add i 6) (by omega) rfl ?_
    refine zx_goto (pc := 833) hF d_Law_law_833 (tgt := 58) rfl ?_
    exact ih (i + 6) (by omega) (by omega) u a wd x y dv bs bf ss sf h
