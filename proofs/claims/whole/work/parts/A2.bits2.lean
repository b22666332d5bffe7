/-! the digest, the sums and the header's tests of both sides -/
theorem mix_a {a b n m : Nat} {w : Nat → Int64} (h : a ≠ b) : g_mix a b n m w a = g_turn m (w a + w b) := by
  unfold g_mix
  rw [pk_uLs, pk_uLn h, pk_uLn h, pk_uLs]
theorem mix_b {a b n m : Nat} {w : Nat → Int64} (h : a ≠ b) : g_mix a b n m w b = g_turn n (w b) ^^^ (w a + w b) := by
  unfold g_mix
  rw [pk_uLn (Ne.symm h), pk_uLs, pk_uLn (Ne.symm h), pk_uLn h, pk_uLs]
theorem mix_o {a b n m j : Nat} {w : Nat → Int64} (h1 : j ≠ a) (h2 : j ≠ b) : g_mix a b n m w j = w j := by
  unfold g_mix
  rw [pk_uLn h1, pk_uLn h2, pk_uLn h2, pk_uLn h1]
def v4 (w : Nat → Int64) : f_4 := (w 0, w 1, w 2, w 3)
theorem v4_round (w : Nat → Int64) : v4 (g_round w) = f_round (v4 w) := by
  unfold g_round v4 f_round
  have d01 : (0 : Nat) ≠ 1 := by decide
  have d23 : (2 : Nat) ≠ 3 := by decide
  have d03 : (0 : Nat) ≠ 3 := by decide
  have d21 : (2 : Nat) ≠ 1 := by decide
  have t0 : ∀ y : Int64, g_turn 0 y = y := fun _ => rfl
  -- behind the first mix
  generalize e1 : g_mix 0 1 13 32 w = w1
  have a0 : w1 0 = g_turn 32 (w 0 + w 1) := by rw [← e1]; exact mix_a d01
  have a1 : w1 1 = g_turn 13 (w 1) ^^^ (w 0 + w 1) := by rw [← e1]; exact mix_b d01
  have a2 : w1 2 = w 2 := by rw [← e1]; exact mix_o (by decide) (by decide)
  have a3 : w1 3 = w 3 := by rw [← e1]; exact mix_o (by decide) (by decide)
  generalize e2 : g_mix 2 3 16 0 w1 = w2
  have b0 : w2 0 = w1 0 := by rw [← e2]; exact mix_o (by decide) (by decide)
  have b1 : w2 1 = w1 1 := by rw [← e2]; exact mix_o (by decide) (by decide)
  have b2 : w2 2 = w1 2 + w1 3 := by rw [← e2, mix_a d23, t0]
  have b3 : w2 3 = g_turn 16 (w1 3) ^^^ (w1 2 + w1 3) := by rw [← e2]; exact mix_b d23
  generalize e3 : g_mix 0 3 21 0 w2 = w3
  have c0 : w3 0 = w2 0 + w2 3 := by rw [← e3, mix_a d03, t0]
  have c1 : w3 1 = w2 1 := by rw [← e3]; exact mix_o (by decide) (by decide)
  have c2 : w3 2 = w2 2 := by rw [← e3]; exact mix_o (by decide) (by decide)
  have c3 : w3 3 = g_turn 21 (w2 3) ^^^ (w2 0 + w2 3) := by rw [← e3]; exact mix_b d03
  rw [mix_o (j := 0) (by decide) (by decide), mix_b (a := 2) (b := 1) d21, mix_a (a := 2) (b := 1) d21, mix_o (j := 3) (by decide) (by decide)]
  unfold f_rb f_rc f_rd f_ra f_rc2 f_rb1 f_rd1
  rw [c0, c1, c2, c3, b0, b1, b2, b3, a0, a1, a2, a3]
  simp only [rot_13, rot_16, rot_17, rot_21, rot_32]
theorem v4_iter : ∀ (k : Nat) (w : Nat → Int64), v4 (g_iter k w) = f_iter k (v4 w)
  | 0, _ => rfl
  | k + 1, w => by
    simp only [g_iter, f_iter]
    rw [v4_iter k, v4_round]
theorem v4_3 (w : Nat → Int64) (x : Int64) : v4 (vp_updL w 3 x) = ((v4 w).1, (v4 w).2.1, (v4 w).2.2.1, x) := rfl
theorem v4_0 (G : Nat → Int64) (x : Int64) : v4 (vp_updL G 0 x) = (x, (v4 G).2) := rfl
theorem v4_in (y : Int64) (w : Nat → Int64) : v4 (g_in y w) = f_in y (v4 w) := by
  unfold f_in g_in
  have h3 : w 3 = (v4 w).2.2.2 := rfl
  rw [v4_0, show g_iter 2 (vp_updL w 3 (w 3 ^^^ y)) 0 = (v4 (g_iter 2 (vp_updL w 3 (w 3 ^^^ y)))).1 from rfl, v4_iter, v4_3, h3]
theorem v4_ini (k0 k1 : Int64) (w : Nat → Int64) : v4 (g_ini k0 k1 w) = f_ini k0 k1 := rfl
theorem v4_mid (k0 k1 x : Int64) (w : Nat → Int64) : v4 (g_mid k0 k1 x w) = f_mid k0 k1 x := by
  unfold g_mid f_mid
  rw [v4_in, v4_in, v4_ini]
theorem v4_end (k0 k1 x : Int64) (w : Nat → Int64) : v4 (g_end k0 k1 x w) = f_end k0 k1 x := by
  unfold g_end f_end
  rw [v4_iter]
  have h1 : ∀ G : Nat → Int64, v4 (vp_updL G 2 (G 2 ^^^ 255)) = ((v4 G).1, (v4 G).2.1, (v4 G).2.2.1 ^^^ 255, (v4 G).2.2.2) := fun _ => rfl
  rw [h1, v4_mid]
theorem dig_eq (k0 k1 x : Int64) (w : Nat → Int64) : g_dig k0 k1 x w = f_dig k0 k1 x := by
  unfold f_dig g_dig
  rw [← v4_end k0 k1 x w]
  generalize g_end k0 k1 x w = G
  rfl
/-! ints -/
theorem ix_nat (x : Int32) : x.toBitVec.toNat < 4294967296 := x.toBitVec.isLt
theorem ix_nI (x : Int32) : x = nI x.toBitVec.toNat := by
  apply Int32.toBitVec_inj.mp
  show x.toBitVec = BitVec.ofNat 32 x.toBitVec.toNat
  rw [BitVec.ofNat_toNat, BitVec.setWidth_eq]
theorem ix_toInt (x : Int32) : x.toInt = if x.toBitVec.toNat < 2147483648 then (x.toBitVec.toNat : Int) else (x.toBitVec.toNat : Int) - 4294967296 := by
  show x.toBitVec.toInt = _
  rw [BitVec.toInt_eq_toNat_cond]
  by_cases h : x.toBitVec.toNat < 2147483648
  · rw [if_pos h, if_pos (by omega)]
  · rw [if_neg h, if_neg (by omega)]
    rfl
theorem ix_ushr16 (x : Int32) : ziushr x 16 = nI (x.toBitVec.toNat / 65536) := by
  rw [ix_nI (ziushr x 16)]
  exact congrArg nI (pk_ushr x 16 16 (by decide))
theorem ix_ushr24 (x : Int32) : ziushr x 24 = nI (x.toBitVec.toNat / 16777216) := by
  rw [ix_nI (ziushr x 24)]
  exact congrArg nI (pk_ushr x 24 24 (by decide))
theorem ix_and16 (x : Int32) : x &&& 65535 = nI (x.toBitVec.toNat % 65536) := pk_and x 16 (by decide)
theorem ix_and14 (x : Int32) : x &&& 16383 = nI (x.toBitVec.toNat % 16384) := pk_and x 14 (by decide)
theorem ix_and8 (x : Int32) : x &&& 255 = nI (x.toBitVec.toNat % 256) := pk_and x 8 (by decide)
theorem ix_shrN (x : Int32) (s : Int32) (k : Nat) (hs : ((s &&& 31).toBitVec.smod 32).toNat = k) : (x >>> (s &&& 31)).toInt = x.toInt / 2 ^ k := by
  rw [pk_shr _ _ k hs, Int.shiftRight_eq_div_pow]
  rfl
theorem ix_hi16 (x : Int32) : (x >>> ((16 : Int32) &&& 31)) &&& 65535 = nI (x.toBitVec.toNat / 65536) := by
  rw [ix_and16]
  congr 1
  have h1 := ix_shrN x 16 16 (by decide)
  have h2 := ix_toInt (x >>> ((16 : Int32) &&& 31))
  have h3 := ix_toInt x
  have h4 := ix_nat x
  have h5 := ix_nat (x >>> ((16 : Int32) &&& 31))
  rw [show (2 : Int) ^ 16 = 65536 from rfl] at h1
  split at h2 <;> split at h3 <;> omega
theorem ix_hi24 (x : Int32) : (x >>> ((24 : Int32) &&& 31)) &&& 255 = nI (x.toBitVec.toNat / 16777216) := by
  rw [ix_and8]
  congr 1
  have h1 := ix_shrN x 24 24 (by decide)
  have h2 := ix_toInt (x >>> ((24 : Int32) &&& 31))
  have h3 := ix_toInt x
  have h4 := ix_nat x
  have h5 := ix_nat (x >>> ((24 : Int32) &&& 31))
  rw [show (2 : Int) ^ 24 = 16777216 from rfl] at h1
  split at h2 <;> split at h3 <;> omega
theorem ix_mid (x : Int32) : (x >>> ((16 : Int32) &&& 31)) &&& 255 = nI (x.toBitVec.toNat / 65536 % 256) := by
  rw [ix_and8]
  congr 1
  have h1 := ix_shrN x 16 16 (by decide)
  have h2 := ix_toInt (x >>> ((16 : Int32) &&& 31))
  have h3 := ix_toInt x
  have h4 := ix_nat x
  have h5 := ix_nat (x >>> ((16 : Int32) &&& 31))
  rw [show (2 : Int) ^ 16 = 65536 from rfl] at h1
  split at h2 <;> split at h3 <;> omega
theorem halves_f (x : Int32) : f_halves x = nI (x.toBitVec.toNat / 65536 + x.toBitVec.toNat % 65536) := by
  unfold f_halves
  rw [ix_ushr16, ix_and16, nI_add]
theorem halves_g (x : Int32) : g_halves x = nI (x.toBitVec.toNat / 65536 + x.toBitVec.toNat % 65536) := by
  unfold g_halves
  rw [ix_hi16, ix_and16, nI_add, Nat.add_comm]
theorem fold_f {a : Nat} (h : a < 2147483648) : f_fold (nI a) = nI (a % 65536 + a / 65536) := by
  unfold f_fold
  rw [ix_and16, ix_ushr16, pk_tn (by omega), nI_add]
theorem fold_g {a : Nat} (h : a < 2147483648) : g_fold1 (nI a) = nI (a % 65536 + a / 65536) := by
  unfold g_fold1 f_rem
  have e1 := pk_rem (a := a) (d := 65536) h (by omega) (by omega)
  have e2 := pk_div (a := a) (d := 65536) h (by omega) (by omega)
  have e3 : nI 65536 = 65536 := by decide
  rw [e3] at e1 e2
  rw [e1, e2, nI_add]
theorem fold_eq {a : Nat} (h : a ≤ 655350) : f_fold (f_fold (nI a)) = g_fold 20 (nI a) := by
  have e3 : nI 65535 = 65535 := by decide
  have le : ∀ b : Nat, b < 2147483648 → ((nI b ≤ 65535) ↔ b ≤ 65535) := fun b hb => by rw [← e3]; exact nI_leI hb (by omega)
  rw [fold_f (by omega), fold_f (by omega)]
  simp only [g_fold]
  by_cases h1 : a ≤ 65535
  · rw [if_pos ((le a (by omega)).mpr h1)]
    congr 1
    omega
  · rw [if_neg (fun z => h1 ((le a (by omega)).mp z)), fold_g (by omega)]
    by_cases h2 : a % 65536 + a / 65536 ≤ 65535
    · rw [if_pos ((le _ (by omega)).mpr h2)]
      congr 1
      omega
    · rw [if_neg (fun z => h2 ((le _ (by omega)).mp z)), fold_g (by omega), if_pos ((le _ (by omega)).mpr (by omega))]
theorem sum_eq (w0 w1 w2 w3 w4 : Int32) : f_sum w0 w1 w2 w3 w4 = g_all w0 w1 w2 w3 w4 := by
  unfold f_sum g_all
  simp only [halves_f, halves_g, nI_add]
  have := ix_nat w0
  have := ix_nat w1
  have := ix_nat w2
  have := ix_nat w3
  have := ix_nat w4
  exact fold_eq (by omega)
theorem ix_high (x : Int32) : (x &&& (-65536)).toBitVec.toNat = x.toBitVec.toNat / 65536 * 65536 := by
  show (x.toBitVec &&& (-65536 : Int32).toBitVec).toNat = _
  rw [BitVec.toNat_and, show (-65536 : Int32).toBitVec.toNat = 65535 <<< 16 by decide, show x.toBitVec.toNat / 65536 * 65536 = (x.toBitVec.toNat >>> 16) <<< 16 by rw [Nat.shiftLeft_eq, Nat.shiftRight_eq_div_pow]]
  apply Nat.eq_of_testBit_eq
  intro i
  rw [Nat.testBit_and, Nat.testBit_shiftLeft, Nat.testBit_shiftLeft, Nat.testBit_shiftRight]
  by_cases h : 16 ≤ i
  · have e : 16 + (i - 16) = i := by omega
    rw [e]
    by_cases h2 : i < 32
    · have h3 : Nat.testBit 65535 (i - 16) = true := by
        rw [show (65535 : Nat) = 2 ^ 16 - 1 from rfl, Nat.testBit_two_pow_sub_one]
        simp; omega
      rw [h3]
      simp [h]
    · have h3 : x.toBitVec.toNat.testBit i = false := Nat.testBit_lt_two_pow (Nat.lt_of_lt_of_le (ix_nat x) (Nat.pow_le_pow_right (n := 2) (by omega) (by omega : 32 ≤ i)))
      rw [h3]
      simp
  · simp [h]
theorem cks_eq (w0 w1 w2 w3 w4 : Int32) : f_cks w0 w1 w2 w3 w4 = g_cks w0 w1 w2 w3 w4 := by
  unfold f_cks g_cks f_sum
  congr 1
  simp only [halves_f, halves_g, ix_high, ix_hi16, nI_add]
  have := ix_nat w0
  have := ix_nat w1
  have := ix_nat w2
  have := ix_nat w3
  have := ix_nat w4
  rw [fold_eq (by omega)]
  congr 2
  omega
theorem rem14 (x : Int32) : (f_rem x 16384 = 0) ↔ (x &&& 16383 = 0) := by
  have h1 := ix_bd x
  have h3 := ix_toInt x
  have h4 := ix_nat x
  have k1 : (16384 : Int32).toInt = 16384 := by decide
  have e0 : (x / 16384).toInt = if 0 ≤ x.toInt then x.toInt / 16384 else -((-x.toInt) / 16384) := by
    rw [Int32.toInt_div_of_ne_right x 16384 (by decide), k1]
    by_cases h : 0 ≤ x.toInt
    · rw [if_pos h, tdiv_pos h]
    · rw [if_neg h, tdiv_neg (by omega)]
  have bm : ∀ z : Int, -2147483648 ≤ z ∧ z < 2147483648 → z.bmod (2 ^ 32) = z := fun z h => Int.bmod_eq_of_le (by omega) (by omega)
  have e1 : (x / 16384 * 16384).toInt = (x / 16384).toInt * 16384 := by
    rw [Int32.toInt_mul, k1]
    apply bm
    split at e0 <;> omega
  have e2 : (f_rem x 16384).toInt = x.toInt - (x / 16384).toInt * 16384 := by
    unfold f_rem
    rw [Int32.toInt_sub, e1]
    apply bm
    split at e0 <;> omega
  rw [ix_and14, ← Int32.toInt_inj, e2]
  have e4 : (nI (x.toBitVec.toNat % 16384) = 0) ↔ x.toBitVec.toNat % 16384 = 0 := by rw [← nI_0]; exact nI_eq (by omega) (by omega)
  rw [e4, show (0 : Int32).toInt = 0 by decide]
  split at e0 <;> split at h3 <;> omega
theorem hd_eq (w0 w1 w2 w3 w4 : Int32) : f_hd w0 w1 w2 w3 w4 = g_hd w0 w1 w2 w3 w4 := by
  unfold f_hd g_hd
  rw [ix_ushr24, ix_hi24, sum_eq, ix_ushr24, ix_hi24, ix_ushr16, ix_and8, pk_tn (by have := ix_nat w2; omega), ix_mid]
  by_cases h : f_rem w1 16384 = 0
  · rw [if_pos h, if_pos ((rem14 w1).mp h)]
  · rw [if_neg h, if_neg (fun z => h ((rem14 w1).mpr z))]
