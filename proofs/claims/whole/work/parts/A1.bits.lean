/-! pure facts of ints and longs: shifts, masks and rotations against the reference's arithmetic -/
theorem lx_ext {x y : Int64} (h : x.toBitVec.toNat = y.toBitVec.toNat) : x = y := Int64.toBitVec_inj.mp (BitVec.eq_of_toNat_eq h)
theorem lx_lN (x : Int64) : x = lN x.toBitVec.toNat := by
  apply Int64.toBitVec_inj.mp
  show x.toBitVec = BitVec.ofNat 64 x.toBitVec.toNat
  rw [BitVec.ofNat_toNat, BitVec.setWidth_eq]
theorem lx_ushr (x : Int64) : (zlushr x 32).toBitVec.toNat = x.toBitVec.toNat / 4294967296 := by
  show (x.toUInt64 >>> ((32 : Int32).toInt64.toUInt64 &&& Int64.toUInt64 63)).toNat = _
  rw [UInt64.toNat_shiftRight, show ((32 : Int32).toInt64.toUInt64 &&& Int64.toUInt64 63).toNat % 64 = 32 by decide, Nat.shiftRight_eq_div_pow]
  rfl
theorem lx_and (x : Int64) : (x &&& 4294967295).toBitVec.toNat = x.toBitVec.toNat % 4294967296 := by
  show (x.toBitVec &&& (4294967295 : Int64).toBitVec).toNat = _
  rw [BitVec.toNat_and, show (4294967295 : Int64).toBitVec.toNat = 2 ^ 32 - 1 by decide, Nat.and_two_pow_sub_one_eq_mod]
theorem lx_toInt (x : Int64) : x.toInt = if x.toBitVec.toNat < 9223372036854775808 then (x.toBitVec.toNat : Int) else (x.toBitVec.toNat : Int) - 18446744073709551616 := by
  show x.toBitVec.toInt = _
  rw [BitVec.toInt_eq_toNat_cond]
  by_cases h : x.toBitVec.toNat < 9223372036854775808
  · rw [if_pos h, if_pos (by omega)]
  · rw [if_neg h, if_neg (by omega)]
    rfl
theorem lx_nat (x : Int64) : x.toBitVec.toNat < 18446744073709551616 := x.toBitVec.isLt
theorem lx_bm {z : Int} (h : -9223372036854775808 ≤ z ∧ z < 9223372036854775808) : z.bmod (2 ^ 64) = z := Int.bmod_eq_of_le (by omega) (by omega)
theorem lx_div (x : Int64) {k : Int64} (hk : ¬ k = -1) : (x / k).toInt = x.toInt.tdiv k.toInt := Int64.toInt_div_of_ne_right x k hk
theorem lx_65 : (65536 : Int64).toInt = 65536 := by decide
theorem lx_32 : (4294967296 : Int64).toInt = 4294967296 := by decide
/-- a division that cuts towards nought -/
theorem tdiv_pos {a k : Int} (h : 0 ≤ a) : a.tdiv k = a / k := Int.tdiv_eq_ediv_of_nonneg h
theorem tdiv_neg {a k : Int} (h : a ≤ 0) : a.tdiv k = -((-a) / k) := by
  have h1 : a = -(-a) := by omega
  rw [h1, Int.neg_tdiv, Int.tdiv_eq_ediv_of_nonneg (by omega), Int.neg_neg]
theorem lx_half (x : Int64) : (f_half x).toInt = if 0 ≤ x.toInt then x.toInt / 65536 / 65536 else -((-x.toInt) / 65536 / 65536) := by
  unfold f_half
  rw [lx_div _ (by decide), lx_div _ (by decide), lx_65]
  by_cases h : 0 ≤ x.toInt
  · rw [if_pos h, show x.toInt.tdiv 65536 = x.toInt / 65536 from tdiv_pos h, tdiv_pos (by omega)]
  · rw [if_neg h, show x.toInt.tdiv 65536 = -((-x.toInt) / 65536) from tdiv_neg (by omega), tdiv_neg (by omega), Int.neg_neg]
theorem lx_bd (x : Int64) : -9223372036854775808 ≤ x.toInt ∧ x.toInt < 9223372036854775808 := by
  rw [lx_toInt]
  have := lx_nat x
  split <;> omega
theorem lx_rst (x : Int64) : (f_rst x).toInt = x.toInt - (f_half x).toInt * 4294967296 := by
  have h1 := lx_bd x
  have h2 := lx_half x
  have h3 : (x / 65536 / 65536).toInt = (f_half x).toInt := rfl
  unfold f_rst
  have e1 : (x / 65536 / 65536 * 65536).toInt = (f_half x).toInt * 65536 := by
    rw [Int64.toInt_mul, h3, lx_65]
    apply lx_bm
    split at h2 <;> omega
  have e2 : (x / 65536 / 65536 * 65536 * 65536).toInt = (f_half x).toInt * 65536 * 65536 := by
    rw [Int64.toInt_mul, e1, lx_65]
    apply lx_bm
    split at h2 <;> omega
  rw [Int64.toInt_sub, e2, lx_bm]
  · omega
  · split at h2 <;> omega
theorem lx_ge (x : Int64) : (0 ≤ lg_cmp x 0) ↔ 0 ≤ x.toInt := by
  rw [lg_cmp_ge, Int64.le_iff_toInt_le]
  exact Iff.rfl
theorem lx_of {x : Int64} {n : Nat} (hn : n < 9223372036854775808) (h : x.toInt = (n : Int)) : x = lN n := by
  apply Int64.toInt_inj.mp
  rw [h, pk_lT hn]
theorem lx_1 : (1 : Int64).toInt = 1 := by decide
theorem lx_upper (x : Int64) : f_upper x = zlushr x 32 := by
  rw [lx_lN (zlushr x 32), lx_ushr]
  have h0 := lx_nat x
  refine lx_of (by omega) ?_
  have h1 := lx_bd x
  have h2 := lx_half x
  have h3 := lx_rst x
  have h4 := lx_toInt x
  have e1 : (f_half x - 1).toInt = (f_half x).toInt - 1 := by
    rw [Int64.toInt_sub, lx_1]
    apply lx_bm
    split at h2 <;> omega
  unfold f_upper
  simp only [lx_ge]
  rw [h3, e1]
  by_cases a : 0 ≤ x.toInt - (f_half x).toInt * 4294967296
  · rw [if_pos a]
    by_cases b : 0 ≤ (f_half x).toInt
    · rw [if_pos b]
      split at h2 <;> split at h4 <;> omega
    · rw [if_neg b, Int64.toInt_add, lx_32, lx_bm]
      · split at h2 <;> split at h4 <;> omega
      · split at h2 <;> split at h4 <;> omega
  · rw [if_neg a]
    by_cases b : 0 ≤ (f_half x).toInt - 1
    · rw [if_pos b, e1]
      split at h2 <;> split at h4 <;> omega
    · rw [if_neg b, Int64.toInt_add, e1, lx_32, lx_bm]
      · split at h2 <;> split at h4 <;> omega
      · split at h2 <;> split at h4 <;> omega
theorem lx_lrem32 (x : Int64) : (f_lrem x 4294967296).toInt = if 0 ≤ x.toInt then x.toInt % 4294967296 else -((-x.toInt) % 4294967296) := by
  have h1 := lx_bd x
  have e0 : (x / 4294967296).toInt = if 0 ≤ x.toInt then x.toInt / 4294967296 else -((-x.toInt) / 4294967296) := by
    rw [lx_div _ (by decide), lx_32]
    by_cases h : 0 ≤ x.toInt
    · rw [if_pos h, tdiv_pos h]
    · rw [if_neg h, tdiv_neg (by omega)]
  have e1 : (x / 4294967296 * 4294967296).toInt = (x / 4294967296).toInt * 4294967296 := by
    rw [Int64.toInt_mul, lx_32]
    apply lx_bm
    split at e0 <;> omega
  unfold f_lrem
  rw [Int64.toInt_sub, e1, lx_bm]
  · split at e0 <;> rename_i h
    · rw [if_pos h]; omega
    · rw [if_neg h]; omega
  · split at e0 <;> omega
theorem lx_lower (x : Int64) : f_lower x = x &&& 4294967295 := by
  rw [lx_lN (x &&& 4294967295), lx_and]
  have h0 := lx_nat x
  refine lx_of (by omega) ?_
  have h1 := lx_bd x
  have h3 := lx_lrem32 x
  have h4 := lx_toInt x
  unfold f_lower
  simp only [lx_ge]
  by_cases a : 0 ≤ (f_lrem x 4294967296).toInt
  · rw [if_pos a]
    split at h3 <;> split at h4 <;> omega
  · rw [if_neg a, Int64.toInt_add, lx_32, lx_bm]
    · split at h3 <;> split at h4 <;> omega
    · split at h3 <;> split at h4 <;> omega
/-- an int as a long -/
theorem lx_i2l (s : Int32) : s.toInt64.toInt = s.toInt := Int32.toInt_toInt64 s
theorem ix_bd (s : Int32) : -2147483648 ≤ s.toInt ∧ s.toInt < 2147483648 := by
  have h1 := Int32.le_toInt s
  have h2 := Int32.toInt_lt s
  omega
theorem lx_shl (x : Int64) (n : Int32) (k : Nat) (hs : ((n.toInt64 &&& 63).toBitVec.smod 64).toNat = k) : (zlshl x n).toBitVec.toNat = x.toBitVec.toNat * 2 ^ k % 18446744073709551616 := by
  show (x.toBitVec <<< ((n.toInt64 &&& 63).toBitVec.smod 64).toNat).toNat = _
  rw [hs, BitVec.toNat_shiftLeft, Nat.shiftLeft_eq]
theorem lx_ushrk (x : Int64) (n : Int32) (k : Nat) (hs : (n.toInt64.toUInt64 &&& Int64.toUInt64 63).toNat % 64 = k) : (zlushr x n).toBitVec.toNat = x.toBitVec.toNat / 2 ^ k := by
  show (x.toUInt64 >>> (n.toInt64.toUInt64 &&& Int64.toUInt64 63)).toNat = _
  rw [UInt64.toNat_shiftRight, hs, Nat.shiftRight_eq_div_pow]
  rfl
theorem lx_join (s p : Int32) : f_join s p = g_join s p := by
  have hs := ix_bd s
  have hp := ix_bd p
  have e1 : (Int32.toInt64 s * 4294967296).toInt = s.toInt * 4294967296 := by
    rw [Int64.toInt_mul, lx_i2l, lx_32]
    exact lx_bm (by omega)
  have e2 : (if 0 ≤ p then Int32.toInt64 p else Int32.toInt64 p + 4294967296).toInt = if 0 ≤ p.toInt then p.toInt else p.toInt + 4294967296 := by
    have h0 : (0 ≤ p) ↔ 0 ≤ p.toInt := by rw [Int32.le_iff_toInt_le]; exact Iff.rfl
    by_cases h : 0 ≤ p
    · rw [if_pos h, if_pos (h0.mp h), lx_i2l]
    · rw [if_neg h, if_neg (fun z => h (h0.mpr z)), Int64.toInt_add, lx_i2l, lx_32]
      exact lx_bm (by omega)
  have g1 : (g_join s p).toInt = s.toInt * 4294967296 + (if 0 ≤ p.toInt then p.toInt else p.toInt + 4294967296) := by
    unfold g_join
    rw [Int64.toInt_add, e1, e2]
    exact lx_bm (by split <;> omega)
  have f1 : (f_join s p).toBitVec.toNat = 4294967296 * ((Int32.toInt64 s).toBitVec.toNat % 4294967296) + (Int32.toInt64 p).toBitVec.toNat % 4294967296 := by
    show ((zlshl (Int32.toInt64 s) 32).toBitVec ||| (Int32.toInt64 p &&& 4294967295).toBitVec).toNat = _
    rw [BitVec.toNat_or, lx_shl _ 32 32 (by decide), lx_and, show (Int32.toInt64 s).toBitVec.toNat * 2 ^ 32 % 18446744073709551616 = 2 ^ 32 * ((Int32.toInt64 s).toBitVec.toNat % 4294967296) by omega, ← Nat.two_pow_add_eq_or_of_lt (i := 32) (by omega)]
  apply Int64.toInt_inj.mp
  have a1 := lx_toInt (Int32.toInt64 s)
  have a2 := lx_toInt (Int32.toInt64 p)
  have a3 := lx_nat (Int32.toInt64 s)
  have a4 := lx_nat (Int32.toInt64 p)
  rw [lx_i2l] at a1 a2
  rw [g1, lx_toInt, f1]
  split at a1 <;> split at a2 <;> split <;> split <;> omega
/-! rotations -/
theorem dbl_nat (y : Int64) : (g_dbl y).toBitVec.toNat = 2 * (y.toBitVec.toNat % 9223372036854775808) + y.toBitVec.toNat / 9223372036854775808 := by
  have h0 := lx_nat y
  have h4 := lx_toInt y
  unfold g_dbl
  by_cases h : 0 ≤ lg_cmp y 0
  · rw [if_pos h]
    have h5 := (lx_ge y).mp h
    show (y.toBitVec + y.toBitVec).toNat = _
    rw [BitVec.toNat_add]
    split at h4 <;> omega
  · rw [if_neg h]
    have h5 : ¬ 0 ≤ y.toInt := fun z => h ((lx_ge y).mpr z)
    show (y.toBitVec + y.toBitVec + (1 : Int64).toBitVec).toNat = _
    rw [BitVec.toNat_add, BitVec.toNat_add, show (1 : Int64).toBitVec.toNat = 1 by decide]
    split at h4 <;> omega
theorem turn_s : ∀ (k : Nat) (y : Int64), g_turn (k + 1) y = g_dbl (g_turn k y)
  | 0, _ => rfl
  | k + 1, y => turn_s k (g_dbl y)
theorem turn_0 (y : Int64) : (g_turn 0 y).toBitVec.toNat = 1 * (y.toBitVec.toNat % 18446744073709551616) + y.toBitVec.toNat / 18446744073709551616 := by
  have := lx_nat y
  show y.toBitVec.toNat = _
  omega
theorem turn_1 (y : Int64) : (g_turn 1 y).toBitVec.toNat = 2 * (y.toBitVec.toNat % 9223372036854775808) + y.toBitVec.toNat / 9223372036854775808 := by
  have h1 := turn_0 y
  have h2 := lx_nat y
  rw [turn_s, dbl_nat]
  omega
theorem turn_2 (y : Int64) : (g_turn 2 y).toBitVec.toNat = 4 * (y.toBitVec.toNat % 4611686018427387904) + y.toBitVec.toNat / 4611686018427387904 := by
  have h1 := turn_1 y
  have h2 := lx_nat y
  rw [turn_s, dbl_nat]
  omega
theorem turn_3 (y : Int64) : (g_turn 3 y).toBitVec.toNat = 8 * (y.toBitVec.toNat % 2305843009213693952) + y.toBitVec.toNat / 2305843009213693952 := by
  have h1 := turn_2 y
  have h2 := lx_nat y
  rw [turn_s, dbl_nat]
  omega
theorem turn_4 (y : Int64) : (g_turn 4 y).toBitVec.toNat = 16 * (y.toBitVec.toNat % 1152921504606846976) + y.toBitVec.toNat / 1152921504606846976 := by
  have h1 := turn_3 y
  have h2 := lx_nat y
  rw [turn_s, dbl_nat]
  omega
theorem turn_5 (y : Int64) : (g_turn 5 y).toBitVec.toNat = 32 * (y.toBitVec.toNat % 576460752303423488) + y.toBitVec.toNat / 576460752303423488 := by
  have h1 := turn_4 y
  have h2 := lx_nat y
  rw [turn_s, dbl_nat]
  omega
theorem turn_6 (y : Int64) : (g_turn 6 y).toBitVec.toNat = 64 * (y.toBitVec.toNat % 288230376151711744) + y.toBitVec.toNat / 288230376151711744 := by
  have h1 := turn_5 y
  have h2 := lx_nat y
  rw [turn_s, dbl_nat]
  omega
theorem turn_7 (y : Int64) : (g_turn 7 y).toBitVec.toNat = 128 * (y.toBitVec.toNat % 144115188075855872) + y.toBitVec.toNat / 144115188075855872 := by
  have h1 := turn_6 y
  have h2 := lx_nat y
  rw [turn_s, dbl_nat]
  omega
theorem turn_8 (y : Int64) : (g_turn 8 y).toBitVec.toNat = 256 * (y.toBitVec.toNat % 72057594037927936) + y.toBitVec.toNat / 72057594037927936 := by
  have h1 := turn_7 y
  have h2 := lx_nat y
  rw [turn_s, dbl_nat]
  omega
theorem turn_9 (y : Int64) : (g_turn 9 y).toBitVec.toNat = 512 * (y.toBitVec.toNat % 36028797018963968) + y.toBitVec.toNat / 36028797018963968 := by
  have h1 := turn_8 y
  have h2 := lx_nat y
  rw [turn_s, dbl_nat]
  omega
theorem turn_10 (y : Int64) : (g_turn 10 y).toBitVec.toNat = 1024 * (y.toBitVec.toNat % 18014398509481984) + y.toBitVec.toNat / 18014398509481984 := by
  have h1 := turn_9 y
  have h2 := lx_nat y
  rw [turn_s, dbl_nat]
  omega
theorem turn_11 (y : Int64) : (g_turn 11 y).toBitVec.toNat = 2048 * (y.toBitVec.toNat % 9007199254740992) + y.toBitVec.toNat / 9007199254740992 := by
  have h1 := turn_10 y
  have h2 := lx_nat y
  rw [turn_s, dbl_nat]
  omega
theorem turn_12 (y : Int64) : (g_turn 12 y).toBitVec.toNat = 4096 * (y.toBitVec.toNat % 4503599627370496) + y.toBitVec.toNat / 4503599627370496 := by
  have h1 := turn_11 y
  have h2 := lx_nat y
  rw [turn_s, dbl_nat]
  omega
theorem turn_13 (y : Int64) : (g_turn 13 y).toBitVec.toNat = 8192 * (y.toBitVec.toNat % 2251799813685248) + y.toBitVec.toNat / 2251799813685248 := by
  have h1 := turn_12 y
  have h2 := lx_nat y
  rw [turn_s, dbl_nat]
  omega
theorem turn_14 (y : Int64) : (g_turn 14 y).toBitVec.toNat = 16384 * (y.toBitVec.toNat % 1125899906842624) + y.toBitVec.toNat / 1125899906842624 := by
  have h1 := turn_13 y
  have h2 := lx_nat y
  rw [turn_s, dbl_nat]
  omega
theorem turn_15 (y : Int64) : (g_turn 15 y).toBitVec.toNat = 32768 * (y.toBitVec.toNat % 562949953421312) + y.toBitVec.toNat / 562949953421312 := by
  have h1 := turn_14 y
  have h2 := lx_nat y
  rw [turn_s, dbl_nat]
  omega
theorem turn_16 (y : Int64) : (g_turn 16 y).toBitVec.toNat = 65536 * (y.toBitVec.toNat % 281474976710656) + y.toBitVec.toNat / 281474976710656 := by
  have h1 := turn_15 y
  have h2 := lx_nat y
  rw [turn_s, dbl_nat]
  omega
theorem turn_17 (y : Int64) : (g_turn 17 y).toBitVec.toNat = 131072 * (y.toBitVec.toNat % 140737488355328) + y.toBitVec.toNat / 140737488355328 := by
  have h1 := turn_16 y
  have h2 := lx_nat y
  rw [turn_s, dbl_nat]
  omega
theorem turn_18 (y : Int64) : (g_turn 18 y).toBitVec.toNat = 262144 * (y.toBitVec.toNat % 70368744177664) + y.toBitVec.toNat / 70368744177664 := by
  have h1 := turn_17 y
  have h2 := lx_nat y
  rw [turn_s, dbl_nat]
  omega
theorem turn_19 (y : Int64) : (g_turn 19 y).toBitVec.toNat = 524288 * (y.toBitVec.toNat % 35184372088832) + y.toBitVec.toNat / 35184372088832 := by
  have h1 := turn_18 y
  have h2 := lx_nat y
  rw [turn_s, dbl_nat]
  omega
theorem turn_20 (y : Int64) : (g_turn 20 y).toBitVec.toNat = 1048576 * (y.toBitVec.toNat % 17592186044416) + y.toBitVec.toNat / 17592186044416 := by
  have h1 := turn_19 y
  have h2 := lx_nat y
  rw [turn_s, dbl_nat]
  omega
theorem turn_21 (y : Int64) : (g_turn 21 y).toBitVec.toNat = 2097152 * (y.toBitVec.toNat % 8796093022208) + y.toBitVec.toNat / 8796093022208 := by
  have h1 := turn_20 y
  have h2 := lx_nat y
  rw [turn_s, dbl_nat]
  omega
theorem turn_22 (y : Int64) : (g_turn 22 y).toBitVec.toNat = 4194304 * (y.toBitVec.toNat % 4398046511104) + y.toBitVec.toNat / 4398046511104 := by
  have h1 := turn_21 y
  have h2 := lx_nat y
  rw [turn_s, dbl_nat]
  omega
theorem turn_23 (y : Int64) : (g_turn 23 y).toBitVec.toNat = 8388608 * (y.toBitVec.toNat % 2199023255552) + y.toBitVec.toNat / 2199023255552 := by
  have h1 := turn_22 y
  have h2 := lx_nat y
  rw [turn_s, dbl_nat]
  omega
theorem turn_24 (y : Int64) : (g_turn 24 y).toBitVec.toNat = 16777216 * (y.toBitVec.toNat % 1099511627776) + y.toBitVec.toNat / 1099511627776 := by
  have h1 := turn_23 y
  have h2 := lx_nat y
  rw [turn_s, dbl_nat]
  omega
theorem turn_25 (y : Int64) : (g_turn 25 y).toBitVec.toNat = 33554432 * (y.toBitVec.toNat % 549755813888) + y.toBitVec.toNat / 549755813888 := by
  have h1 := turn_24 y
  have h2 := lx_nat y
  rw [turn_s, dbl_nat]
  omega
theorem turn_26 (y : Int64) : (g_turn 26 y).toBitVec.toNat = 67108864 * (y.toBitVec.toNat % 274877906944) + y.toBitVec.toNat / 274877906944 := by
  have h1 := turn_25 y
  have h2 := lx_nat y
  rw [turn_s, dbl_nat]
  omega
theorem turn_27 (y : Int64) : (g_turn 27 y).toBitVec.toNat = 134217728 * (y.toBitVec.toNat % 137438953472) + y.toBitVec.toNat / 137438953472 := by
  have h1 := turn_26 y
  have h2 := lx_nat y
  rw [turn_s, dbl_nat]
  omega
theorem turn_28 (y : Int64) : (g_turn 28 y).toBitVec.toNat = 268435456 * (y.toBitVec.toNat % 68719476736) + y.toBitVec.toNat / 68719476736 := by
  have h1 := turn_27 y
  have h2 := lx_nat y
  rw [turn_s, dbl_nat]
  omega
theorem turn_29 (y : Int64) : (g_turn 29 y).toBitVec.toNat = 536870912 * (y.toBitVec.toNat % 34359738368) + y.toBitVec.toNat / 34359738368 := by
  have h1 := turn_28 y
  have h2 := lx_nat y
  rw [turn_s, dbl_nat]
  omega
theorem turn_30 (y : Int64) : (g_turn 30 y).toBitVec.toNat = 1073741824 * (y.toBitVec.toNat % 17179869184) + y.toBitVec.toNat / 17179869184 := by
  have h1 := turn_29 y
  have h2 := lx_nat y
  rw [turn_s, dbl_nat]
  omega
theorem turn_31 (y : Int64) : (g_turn 31 y).toBitVec.toNat = 2147483648 * (y.toBitVec.toNat % 8589934592) + y.toBitVec.toNat / 8589934592 := by
  have h1 := turn_30 y
  have h2 := lx_nat y
  rw [turn_s, dbl_nat]
  omega
theorem turn_32 (y : Int64) : (g_turn 32 y).toBitVec.toNat = 4294967296 * (y.toBitVec.toNat % 4294967296) + y.toBitVec.toNat / 4294967296 := by
  have h1 := turn_31 y
  have h2 := lx_nat y
  rw [turn_s, dbl_nat]
  omega
theorem rot_13 (x : Int64) : f_rot x 13 = g_turn 13 x := by
  apply lx_ext
  have h2 := lx_nat x
  rw [turn_13]
  show ((zlshl x 13).toBitVec ||| (zlushr x (64 - 13)).toBitVec).toNat = _
  rw [BitVec.toNat_or, lx_shl _ 13 13 (by decide), lx_ushrk _ (64 - 13) 51 (by decide), show x.toBitVec.toNat * 2 ^ 13 % 18446744073709551616 = 2 ^ 13 * (x.toBitVec.toNat % 2251799813685248) by omega, show 2 ^ 51 = 2251799813685248 from rfl, ← Nat.two_pow_add_eq_or_of_lt (i := 13) (by omega)]
theorem rot_16 (x : Int64) : f_rot x 16 = g_turn 16 x := by
  apply lx_ext
  have h2 := lx_nat x
  rw [turn_16]
  show ((zlshl x 16).toBitVec ||| (zlushr x (64 - 16)).toBitVec).toNat = _
  rw [BitVec.toNat_or, lx_shl _ 16 16 (by decide), lx_ushrk _ (64 - 16) 48 (by decide), show x.toBitVec.toNat * 2 ^ 16 % 18446744073709551616 = 2 ^ 16 * (x.toBitVec.toNat % 281474976710656) by omega, show 2 ^ 48 = 281474976710656 from rfl, ← Nat.two_pow_add_eq_or_of_lt (i := 16) (by omega)]
theorem rot_17 (x : Int64) : f_rot x 17 = g_turn 17 x := by
  apply lx_ext
  have h2 := lx_nat x
  rw [turn_17]
  show ((zlshl x 17).toBitVec ||| (zlushr x (64 - 17)).toBitVec).toNat = _
  rw [BitVec.toNat_or, lx_shl _ 17 17 (by decide), lx_ushrk _ (64 - 17) 47 (by decide), show x.toBitVec.toNat * 2 ^ 17 % 18446744073709551616 = 2 ^ 17 * (x.toBitVec.toNat % 140737488355328) by omega, show 2 ^ 47 = 140737488355328 from rfl, ← Nat.two_pow_add_eq_or_of_lt (i := 17) (by omega)]
theorem rot_21 (x : Int64) : f_rot x 21 = g_turn 21 x := by
  apply lx_ext
  have h2 := lx_nat x
  rw [turn_21]
  show ((zlshl x 21).toBitVec ||| (zlushr x (64 - 21)).toBitVec).toNat = _
  rw [BitVec.toNat_or, lx_shl _ 21 21 (by decide), lx_ushrk _ (64 - 21) 43 (by decide), show x.toBitVec.toNat * 2 ^ 21 % 18446744073709551616 = 2 ^ 21 * (x.toBitVec.toNat % 8796093022208) by omega, show 2 ^ 43 = 8796093022208 from rfl, ← Nat.two_pow_add_eq_or_of_lt (i := 21) (by omega)]
theorem rot_32 (x : Int64) : f_rot x 32 = g_turn 32 x := by
  apply lx_ext
  have h2 := lx_nat x
  rw [turn_32]
  show ((zlshl x 32).toBitVec ||| (zlushr x (64 - 32)).toBitVec).toNat = _
  rw [BitVec.toNat_or, lx_shl _ 32 32 (by decide), lx_ushrk _ (64 - 32) 32 (by decide), show x.toBitVec.toNat * 2 ^ 32 % 18446744073709551616 = 2 ^ 32 * (x.toBitVec.toNat % 4294967296) by omega, show 2 ^ 32 = 4294967296 from rfl, ← Nat.two_pow_add_eq_or_of_lt (i := 32) (by omega)]
