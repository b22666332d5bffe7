/-! the law's world -/
def mC (K : Nat → ClassId) (ad : Nat → Nat) (B n m : Nat) (k0 k1 : Int64) (fst stp : Nat → Int32) (u : Nat → Int32) (a : Nat → Nat → Int32) (wd : Nat → Int64) : va_W := [cO (ad 0) 11 [.int (nI B), .int (nI n), .int (nI m), .long k0, .long k1, .int (u 0), .ref (ad 1), .ref (ad 2), .ref (ad 3), .ref (ad 4), .ref (ad 5), .ref (ad 6), .ref (ad 7), .ref (ad 8), .ref (ad 9), .ref (ad 10), .ref (ad 11), .ref (ad 12), .ref (ad 13), .ref (ad 14), .ref (ad 15), .ref (ad 16), .ref (ad 17), .ref (ad 18), .ref (ad 19), .ref (ad 20), .ref (ad 21), .ref (ad 22), .ref (ad 23), .int (u 1), .ref (ad 24), .int (u 2), .int (u 3), .int (u 4), .int (u 5), .int (u 6), .int (u 7), .ref (ad 25)], cJ K (ad 1) 4 wd, cI K (ad 2) 8 fst, cI K (ad 3) 8 stp, cI K (ad 4) 101 (a 0), cI K (ad 5) 101 (a 1), cZ K (ad 6) 4 (a 2), cI K (ad 7) 4 (a 3), cI K (ad 8) 4 (a 4), cZ K (ad 9) 32 (a 5), cI K (ad 10) 32 (a 6), cZ K (ad 11) 32 (a 7), cI K (ad 12) 32 (a 8), cI K (ad 13) 32 (a 9), cI K (ad 14) 32 (a 10), cI K (ad 15) 32 (a 11), cI K (ad 16) 32 (a 12), cZ K (ad 17) 8 (a 13), cI K (ad 18) 8 (a 14), cZ K (ad 19) 80 (a 15), cI K (ad 20) 80 (a 16), cI K (ad 21) 80 (a 17), cI K (ad 22) 80 (a 18), cI K (ad 23) 80 (a 19), cI K (ad 24) 5 (a 20), cI K (ad 25) 5 (a 21)]
def cC (K : Nat → ClassId) (KB KS : ClassId) (ad : Nat → Nat) (aB aS : Nat → Nat → Nat) (B n m : Nat) (k0 k1 : Int64) (fst stp : Nat → Int32) (x : Nat → Int32) (y : Nat → Nat → Int32) (dv : f_4) : va_W := [cO (ad 26) 0 [.ref (ad 27), .ref (ad 34), .ref (ad 35), .int (nI m), .ref (ad 28), .ref (ad 29), .int (x 0), .int (x 1), .int (x 2), .int (x 3), .int (x 4)], cO (ad 27) 2 [.long k0, .long k1, .long dv.1, .long dv.2.1, .long dv.2.2.1, .long dv.2.2.2], cI K (ad 28) 5 (y 0), cO (ad 29) 10 [.ref (ad 30)], cI K (ad 30) 16 (y 1), cO (ad 31) 4 [.int (nI m), .ref (ad 32), .ref (ad 33)], cI K (ad 32) n fst, cI K (ad 33) n stp, cR KB (ad 34) B (rAd aB B), cR KS (ad 35) n (rAd aS n)]
theorem bLs_fst {K : Nat → ClassId} {l0 m n : Nat} {aB : Nat → Nat → Nat} {bs bs' : Nat → Nat → Int32} {bf bf' : Nat → Nat → Nat → Int32} {L : List Nat} : (bLs K l0 m n aB bs bf L).map Prod.fst = (bLs K l0 m n aB bs' bf' L).map Prod.fst := by
  unfold bLs
  rw [List.map_flatMap, List.map_flatMap]
  rfl
theorem sLs_fst {K : Nat → ClassId} {aS : Nat → Nat → Nat} {ss ss' : Nat → Nat → Int32} {sf sf' : Nat → Nat → Nat → Int32} {L : List Nat} : (sLs K aS ss sf L).map Prod.fst = (sLs K aS ss' sf' L).map Prod.fst := by
  unfold sLs
  rw [List.map_flatMap, List.map_flatMap]
  rfl
theorem foc_bq {C X Y X1 X2 Y1 Y2 : va_W} (h1 : X.Perm (X1 ++ X2)) (h2 : Y.Perm (Y1 ++ Y2)) {C1 C2 : va_W} (hC : C = C1 ++ C2) : (C1 ++ (C2 ++ (X ++ Y))).Perm ((C1 ++ (C2 ++ (X1 ++ Y1))) ++ (X2 ++ Y2)) := by
  have e : ((C1 ++ (C2 ++ (X1 ++ Y1))) ++ (X2 ++ Y2)) = C1 ++ (C2 ++ (X1 ++ (Y1 ++ (X2 ++ Y2)))) := by simp only [List.append_assoc]
  rw [e]
  refine List.Perm.append_left C1 (List.Perm.append_left C2 ((h1.append h2).trans ?_))
  rw [List.append_assoc]
  refine List.Perm.append_left X1 ?_
  rw [← List.append_assoc, ← List.append_assoc]
  exact List.Perm.append_right Y2 List.perm_append_comm
theorem foc_b {X Y X1 X2 C1 C2 : va_W} (h1 : X.Perm (X1 ++ X2)) : (C1 ++ (C2 ++ (X ++ Y))).Perm ((C1 ++ (C2 ++ X1)) ++ (X2 ++ Y)) := by
  have e : ((C1 ++ (C2 ++ X1)) ++ (X2 ++ Y)) = C1 ++ (C2 ++ ((X1 ++ X2) ++ Y)) := by simp only [List.append_assoc]
  rw [e]
  exact List.Perm.append_left C1 (List.Perm.append_left C2 (List.Perm.append_right Y h1))
theorem foc_q {X Y Y1 Y2 C1 C2 : va_W} (h2 : Y.Perm (Y1 ++ Y2)) : (C1 ++ (C2 ++ (X ++ Y))).Perm ((C1 ++ (C2 ++ Y1)) ++ (X ++ Y2)) := by
  have e : ((C1 ++ (C2 ++ Y1)) ++ (X ++ Y2)) = C1 ++ (C2 ++ (Y1 ++ (X ++ Y2))) := by simp only [List.append_assoc]
  rw [e]
  refine List.Perm.append_left C1 (List.Perm.append_left C2 ?_)
  refine (List.Perm.append_left X h2).trans ?_
  rw [← List.append_assoc, ← List.append_assoc]
  exact List.Perm.append_right Y2 List.perm_append_comm
theorem foc_0 {X Y C1 C2 : va_W} : (C1 ++ (C2 ++ (X ++ Y))).Perm ((C1 ++ C2) ++ (X ++ Y)) := by
  rw [List.append_assoc]
theorem mem_bLs {K : Nat → ClassId} {l0 m n j : Nat} {aB : Nat → Nat → Nat} {bs : Nat → Nat → Int32} {bf : Nat → Nat → Nat → Int32} {L : List Nat} (h : j ∈ L) : cO (aB j 0) 1 [.ref (aB j 1), .ref (aB j 4), .ref (aB j 8), .ref (aB j 16), .int (bs j 0), .ref (aB j 17)] ∈ bLs K l0 m n aB bs bf L :=
  List.mem_flatMap.mpr ⟨j, h, List.mem_cons_self⟩
theorem mem_sLs {K : Nat → ClassId} {j : Nat} {aS : Nat → Nat → Nat} {ss : Nat → Nat → Int32} {sf : Nat → Nat → Nat → Int32} {L : List Nat} (h : j ∈ L) : cO (aS j 0) 5 [.ref (aS j 1), .ref (aS j 7), .int (ss j 0), .int (ss j 1), .ref (aS j 5), .ref (aS j 6)] ∈ sLs K aS ss sf L :=
  List.mem_flatMap.mpr ⟨j, h, List.mem_cons_self⟩
theorem rAd_lt {aB : Nat → Nat → Nat} {B j : Nat} (h : j < B) : rAd aB B j = some (aB j 0) := if_pos h
/-- every balancer's object is in T -/
theorem TB_of {T : va_W} {B : Nat} {aB : Nat → Nat → Nat} {bs : Nat → Nat → Int32} (h : ∀ j, j < B → cO (aB j 0) 1 [.ref (aB j 1), .ref (aB j 4), .ref (aB j 8), .ref (aB j 16), .int (bs j 0), .ref (aB j 17)] ∈ T) : f_TB (rAd aB B) T B (fun j => bs j 0) := fun j hj => by
  obtain ⟨q, hq⟩ := List.getElem?_of_mem (h j hj)
  exact ⟨q, aB j 0, _, rAd_lt hj, hq, rfl⟩
theorem TS_of {T : va_W} {n : Nat} {aS : Nat → Nat → Nat} {ss : Nat → Nat → Int32} (h : ∀ j, j < n → cO (aS j 0) 5 [.ref (aS j 1), .ref (aS j 7), .int (ss j 0), .int (ss j 1), .ref (aS j 5), .ref (aS j 6)] ∈ T) : f_TS (rAd aS n) T n (fun j => ss j 0) := fun j hj => by
  obtain ⟨q, hq⟩ := List.getElem?_of_mem (h j hj)
  exact ⟨q, aS j 0, aS j 1, aS j 7, aS j 5, aS j 6, ss j 1, rAd_lt hj, hq⟩
theorem mem_erase {b j B : Nat} (hj : j < B) (h : j ≠ b) : j ∈ (List.range B).erase b := (List.mem_erase_of_ne h).mpr (List.mem_range.mpr hj)
/-- a number is a balancer's (a server's) or it isn't -/
theorem is_or (b : Int32) {N : Nat} (hN : N < 2 ^ 31) : g_is b N = 0 ∨ ∃ k, k < N ∧ b = nI k := by
  unfold g_is
  by_cases h : b < 0
  · exact Or.inl (if_pos h)
  · by_cases h2 : nI N ≤ b
    · rw [if_neg h, if_pos h2]; exact Or.inl rfl
    · refine Or.inr ⟨b.toNatClampNeg, ?_⟩
      have hv : vp_in b N := by
        have e0 : (0 : Int32).toInt = 0 := by decide
        have a1 := Int32.lt_iff_toInt_lt.mp (Int32.not_le.mp h2)
        have a2 := Int32.le_iff_toInt_le.mp (Int32.not_lt.mp h)
        rw [e0] at a2
        rw [nI_toInt hN] at a1
        exact vp_in_iff.mpr ⟨a2, a1⟩
      exact ⟨(zcl hN hv).2, (zcl hN hv).1⟩

