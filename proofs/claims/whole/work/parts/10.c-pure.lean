def z01 (f : Nat → Int32) : Prop := ∀ j, f j = 0 ∨ f j = 1
def f_next (x : Int32) : Int32 := (x + 1) &&& 65535
def f_halves (w : Int32) : Int32 := ziushr w 16 + (w &&& 65535)
def f_fold (t : Int32) : Int32 := (t &&& 65535) + ziushr t 16
def f_sum (w0 w1 w2 w3 w4 : Int32) : Int32 := f_fold (f_fold (f_halves w0 + f_halves w1 + f_halves w2 + f_halves w3 + f_halves w4))
def f_cks (w0 w1 w2 w3 w4 : Int32) : Int32 := 65535 - f_sum w0 w1 (w2 &&& (-65536)) w3 w4
def f_rot (x : Int64) (n : Int32) : Int64 := zlshl x n ||| zlushr x (64 - n)
abbrev f_4 : Type := Int64 × Int64 × Int64 × Int64
def f_rb1 (a b : Int64) : Int64 := f_rot b 13 ^^^ (a + b)
def f_rd1 (c d : Int64) : Int64 := f_rot d 16 ^^^ (c + d)
def f_ra (a b c d : Int64) : Int64 := f_rot (a + b) 32 + f_rd1 c d
def f_rd (a b c d : Int64) : Int64 := f_rot (f_rd1 c d) 21 ^^^ f_ra a b c d
def f_rc2 (a b c d : Int64) : Int64 := (c + d) + f_rb1 a b
def f_rb (a b c d : Int64) : Int64 := f_rot (f_rb1 a b) 17 ^^^ f_rc2 a b c d
def f_rc (a b c d : Int64) : Int64 := f_rot (f_rc2 a b c d) 32
def f_round (v : f_4) : f_4 := (f_ra v.1 v.2.1 v.2.2.1 v.2.2.2, f_rb v.1 v.2.1 v.2.2.1 v.2.2.2, f_rc v.1 v.2.1 v.2.2.1 v.2.2.2, f_rd v.1 v.2.1 v.2.2.1 v.2.2.2)
def f_iter : Nat → f_4 → f_4
  | 0, v => v
  | k + 1, v => f_iter k (f_round v)
def f_in (y : Int64) (v : f_4) : f_4 := ((f_iter 2 (v.1, v.2.1, v.2.2.1, v.2.2.2 ^^^ y)).1 ^^^ y, (f_iter 2 (v.1, v.2.1, v.2.2.1, v.2.2.2 ^^^ y)).2)
def f_ini (k0 k1 : Int64) : f_4 := (k0 ^^^ 8317987319222330741, k1 ^^^ 7237128888997146477, k0 ^^^ 7816392313619706465, k1 ^^^ 8387220255154660723)
def f_mid (k0 k1 x : Int64) : f_4 := f_in 576460752303423488 (f_in x (f_ini k0 k1))
def f_end (k0 k1 x : Int64) : f_4 := f_iter 4 ((f_mid k0 k1 x).1, (f_mid k0 k1 x).2.1, (f_mid k0 k1 x).2.2.1 ^^^ 255, (f_mid k0 k1 x).2.2.2)
def f_dig (k0 k1 x : Int64) : Int64 := (f_end k0 k1 x).1 ^^^ (f_end k0 k1 x).2.1 ^^^ (f_end k0 k1 x).2.2.1 ^^^ (f_end k0 k1 x).2.2.2
def f_first (P : Nat → Bool) : Nat → Nat → Int32
  | 0, _ => -1
  | k + 1, i => if P i then nI i else f_first P k (i + 1)
def f_same (use src prt : Nat → Int32) (s p : Int32) (j : Nat) : Bool := !(use j == 0) && (src j == s) && (prt j == p)
def f_find (use src prt : Nat → Int32) (n : Nat) (s p : Int32) : Int32 := f_first (f_same use src prt s p) n 0
def f_free (use : Nat → Int32) (n : Nat) : Int32 := f_first (fun j => use j == 0) n 0
def f_new (use src prt : Nat → Int32) (n : Nat) (s p : Int32) : Int32 := if f_find use src prt n s p = -1 then f_free use n else -1
def f_fot (use src prt : Nat → Int32) (n : Nat) (s p : Int32) : Int32 := if f_find use src prt n s p = -1 then f_free use n else f_find use src prt n s p
def f_put (f : Nat → Int32) (j v : Int32) : Nat → Int32 := if j = -1 then f else upd f j.toNatClampNeg v
def f_inc (cnt j : Int32) : Int32 := if j = -1 then cnt else cnt + 1
def f_rem (x y : Int32) : Int32 := x - x / y * y
def f_ru (use : Nat → Int32) (j : Nat) : Nat → Int32 := if use j = 0 then use else upd use j 0
def f_rn (use : Nat → Int32) (cnt : Int32) (j : Nat) : Int32 := if use j = 0 then cnt else cnt - 1
def f_all : Nat → Nat → (Nat → Int32) → Int32 → (Nat → Int32) × Int32
  | 0, _, use, cnt => (use, cnt)
  | k + 1, j, use, cnt => f_all k (j + 1) (f_ru use j) (f_rn use cnt j)
def f_oc (up con : Nat → Int32) (j : Nat) (ans : Int32) : Int32 := if ans = up j then 0 else con j + 1
def f_or (up con : Nat → Int32) (j : Nat) (ans : Int32) : Int32 := if 3 ≤ f_oc up con j ans then 1 else 0
def f_ou (up con : Nat → Int32) (j : Nat) (ans : Int32) : Nat → Int32 := if 3 ≤ f_oc up con j ans then upd up j ans else up
def f_on (up con : Nat → Int32) (j : Nat) (ans : Int32) : Nat → Int32 := if 3 ≤ f_oc up con j ans then upd (upd con j (f_oc up con j ans)) j 0 else upd con j (f_oc up con j ans)
theorem zm1 {j : Nat} (h : j < 2 ^ 31) : ¬ nI j = -1 := fun e => by
  have h1 := congrArg Int32.toInt e
  have h2 : (-1 : Int32).toInt = -1 := by decide
  rw [nI_toInt h, h2] at h1
  omega
theorem f_first_or (P : Nat → Bool) : ∀ k i, f_first P k i = -1 ∨ ∃ j, i ≤ j ∧ j < i + k ∧ P j = true ∧ f_first P k i = nI j
  | 0, i => Or.inl rfl
  | k + 1, i => by
    by_cases h : P i = true
    · exact Or.inr ⟨i, Nat.le_refl _, by omega, h, by simp [f_first, h]⟩
    · rcases f_first_or P k (i + 1) with g | ⟨j, g1, g2, g3, g4⟩
      · exact Or.inl (by simp [f_first, h, g])
      · exact Or.inr ⟨j, by omega, by omega, g3, by simp [f_first, h, g4]⟩
theorem f_first_in {P : Nat → Bool} {k : Nat} (h : ¬ f_first P k 0 = -1) : ∃ j, j < k ∧ P j = true ∧ f_first P k 0 = nI j := by
  rcases f_first_or P k 0 with g | ⟨j, _, g2, g3, g4⟩
  · exact absurd g h
  · exact ⟨j, by omega, g3, g4⟩
theorem f_first_cl {P : Nat → Bool} {k : Nat} (hn : k < 2 ^ 31) (h : ¬ f_first P k 0 = -1) : f_first P k 0 = nI (f_first P k 0).toNatClampNeg ∧ (f_first P k 0).toNatClampNeg < k := by
  obtain ⟨j, h1, _, h3⟩ := f_first_in h
  rw [h3, nI_clamp (by omega)]
  exact ⟨rfl, h1⟩
theorem f_find_cl {use src prt : Nat → Int32} {n : Nat} {s p : Int32} (hn : n < 2 ^ 31) (h : ¬ f_find use src prt n s p = -1) : f_find use src prt n s p = nI (f_find use src prt n s p).toNatClampNeg ∧ (f_find use src prt n s p).toNatClampNeg < n := f_first_cl hn h
theorem f_fot_cl {use src prt : Nat → Int32} {n : Nat} {s p : Int32} (hn : n < 2 ^ 31) (h : ¬ f_fot use src prt n s p = -1) : f_fot use src prt n s p = nI (f_fot use src prt n s p).toNatClampNeg ∧ (f_fot use src prt n s p).toNatClampNeg < n := by
  unfold f_fot at h ⊢
  by_cases g : f_find use src prt n s p = -1
  · rw [if_pos g] at h ⊢; exact f_first_cl hn h
  · rw [if_neg g] at h ⊢; exact f_find_cl hn g
