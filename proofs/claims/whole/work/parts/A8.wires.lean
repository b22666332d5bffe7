/-! the wire of both sides -/
theorem wire_eq {w kp inr : Nat → Int32} {st b k rp sst bst : Int32} (hi : ∀ i, i < 5 → inr i = kp i) (hb : ¬ rp = 0 → bst = sst) : ∀ t, t < 16 → f_dw rp sst (kp 3) (f_fwd w kp st b k) t = g_wir (nI t) b k rp st bst inr := fun t ht => by
  have g2 : g_wir 2 b k rp st bst inr = 1076822016 + g_cks (1157627928 + (inr 0 &&& 65535)) (st * 65536) 1076822016 (167772416 + b) (167772672 + k) := rfl
  have g13 : g_wir 13 b k rp st bst inr = if rp = 0 then 0 else 1074135040 + g_cks 1157627944 (bst * 65536) 1074135040 167772161 (inr 3) := rfl
  have f2 : f_fwd w kp st b k 2 = 1076822016 + f_cks (1157627928 + (kp 0 &&& 65535)) (st * 65536) 1076822016 (167772416 + b) (167772672 + k) := rfl
  have F : ∀ t, t < 11 → f_dw rp sst (kp 3) (f_fwd w kp st b k) t = f_fwd w kp st b k t := fun t ht => by
    unfold f_dw
    by_cases z : rp = 0
    · rw [if_pos z]
      simp only [f_zero]
      rw [pk_un (by omega), pk_un (by omega), pk_un (by omega), pk_un (by omega), pk_un (by omega)]
    · rw [if_neg z]
      unfold f_ans f_ck
      rw [pk_un (by omega), pk_un (by omega), pk_un (by omega), pk_un (by omega), pk_un (by omega), pk_un (by omega)]
  have h0 := hi 0 (by omega)
  have h3 := hi 3 (by omega)
  have hc : t = 0 ∨ t = 1 ∨ t = 2 ∨ t = 3 ∨ t = 4 ∨ t = 5 ∨ t = 6 ∨ t = 7 ∨ t = 8 ∨ t = 9 ∨ t = 10 ∨ t = 11 ∨ t = 12 ∨ t = 13 ∨ t = 14 ∨ t = 15 := by omega
  rcases hc with z | z | z | z | z | z | z | z | z | z | z | z | z | z | z | z <;> subst z
  · rw [F 0 (by omega)]
    show (1157627928 + (kp 0 &&& 65535)) = (1157627928 + (inr 0 &&& 65535))
    rw [h0]
  · rw [F 1 (by omega)]; rfl
  · rw [F 2 (by omega), f2, cks_eq, ← h0]; exact g2.symm
  · rw [F 3 (by omega)]; rfl
  · rw [F 4 (by omega)]; rfl
  · rw [F 5 (by omega)]; rfl
  · rw [F 6 (by omega)]; exact (hi 0 (by omega)).symm
  · rw [F 7 (by omega)]; exact (hi 1 (by omega)).symm
  · rw [F 8 (by omega)]; exact (hi 2 (by omega)).symm
  · rw [F 9 (by omega)]; exact (hi 3 (by omega)).symm
  · rw [F 10 (by omega)]; exact (hi 4 (by omega)).symm
  all_goals
    by_cases z : rp = 0
    · have e1 : ∀ t, 11 ≤ t → t < 16 → f_dw rp sst (kp 3) (f_fwd w kp st b k) t = 0 := fun t a b => by
        unfold f_dw
        rw [if_pos z]
        have hc : t = 11 ∨ t = 12 ∨ t = 13 ∨ t = 14 ∨ t = 15 := by omega
        rcases hc with y | y | y | y | y <;> subst y <;> rfl
      rw [e1 _ (by omega) (by omega), z]
      rfl
    · have e2 : ∀ t, f_dw rp sst (kp 3) (f_fwd w kp st b k) t = f_ans (f_fwd w kp st b k) sst (kp 3) t := fun t => by unfold f_dw; rw [if_neg z]
      rw [e2]
      have hb' := hb z
      subst hb'
      first
      | (have g : g_wir (nI 11) b k rp st bst inr = if rp = 0 then 0 else 1157627944 := rfl
         rw [g, if_neg z]; rfl)
      | (have g : g_wir (nI 12) b k rp st bst inr = if rp = 0 then 0 else bst * 65536 := rfl
         rw [g, if_neg z]; rfl)
      | (have a13 : f_ans (f_fwd w kp st b k) bst (kp 3) 13 = 1074135040 + f_cks 1157627944 (bst * 65536) 1074135040 167772161 (kp 3) := rfl
         rw [a13, cks_eq, ← h3]
         exact ((if_neg z).symm.trans g13.symm : _))
      | (have g : g_wir (nI 14) b k rp st bst inr = if rp = 0 then 0 else 167772161 := rfl
         rw [g, if_neg z]; rfl)
      | (have g : g_wir (nI 15) b k rp st bst inr = if rp = 0 then 0 else inr 3 := rfl
         rw [g, if_neg z, h3]; rfl)
