def iS0 : Nat → Int32 := fun i => if i = 0 then 1 else 0
def iF0 : Nat → Nat → Int32 := fun _ _ => 0
def f_z4 : f_4 := (0, 0, 0, 0)
def sAd (z : Nat) (u : Nat → Nat) : Nat → Nat := fun i => match i with | 0 => z | 1 => u 0 | 2 => u 1 | 3 => u 2 | 4 => u 3 | 5 => u 5 | 6 => u 6 | _ => u 4
theorem zp_end {C T N : va_W} : ((C ++ T) ++ N).Perm (C ++ (N ++ T)) := by
  rw [List.append_assoc]
  exact List.Perm.append_left C List.perm_append_comm
theorem sLs_succ {K : Nat → ClassId} {aS : Nat → Nat → Nat} {a : Nat → Nat} {j : Nat} : sLs K (fup aS j a) (fun _ => iS0) (fun _ => iF0) (List.range (j + 1)) = sLs K aS (fun _ => iS0) (fun _ => iF0) (List.range j) ++ srvC K a iS0 iF0 := by
  unfold sLs
  rw [List.range_succ, List.flatMap_append]
  congr 1
  · exact fm_congr (fun i hi => by rw [fup_n (Nat.ne_of_lt (List.mem_range.mp hi))])
  · rw [List.flatMap_cons, List.flatMap_nil, List.append_nil, fup_s]
theorem sv_step {K : Nat → ClassId} {C : va_W} {aS : Nat → Nat → Nat} {u : Nat → Nat} {z j : Nat} : (C ++ ([cO z 5 [.ref (u 0), .ref (u 4), .int 1, .int 0, .ref (u 5), .ref (u 6)], cO (u 0) 6 [.ref (u 1), .ref (u 2), .ref (u 3), .int 0], cI K (u 1) 10 (fun _ => 0), cI K (u 2) 10 (fun _ => 0), cZ K (u 3) 10 (fun _ => 0), cO (u 4) 7 [.int 0], cI K (u 5) 10 (fun _ => 0), cI K (u 6) 10 (fun _ => 0)] ++ sLs K aS (fun _ => iS0) (fun _ => iF0) (List.range j))).Perm (C ++ sLs K (fup aS j (sAd z u)) (fun _ => iS0) (fun _ => iF0) (List.range (j + 1))) := by
  rw [sLs_succ]
  refine List.Perm.append_left C (List.Perm.trans (List.Perm.append_right _ (?_ : List.Perm _ (srvC K (sAd z u) iS0 iF0))) List.perm_append_comm)
  exact zperm_idx [0, 1, 2, 3, 4, 6, 7, 5] (by show ([0, 1, 2, 3, 4, 6, 7, 5] : List Nat).Perm (List.range 8); decide) rfl
def iB0 : Nat → Int32 := fun i => if i = 0 then 1 else if i = 3 then 65530 else 0
def iG0 (fN sN : Nat → Nat) (m n : Nat) : Nat → Nat → Int32 := fun i => if i = 0 then (f_fill n 0 1 (fun _ => 0)) else if i = 2 then (f_tab fN sN m n (f_fill n 0 1 (fun _ => 0)) (fun _ => 0) (fun _ => 0)).1 else if i = 4 then (f_tab fN sN m n (f_fill n 0 1 (fun _ => 0)) (fun _ => 0) (fun _ => 0)).2.1 else fun _ => 0
def bAd (z : Nat) (u : Nat → Nat) : Nat → Nat := fun i => match i with | 0 => z | 1 => u 9 | 2 => u 10 | 3 => u 11 | 4 => u 12 | 5 => u 13 | 6 => u 14 | 7 => u 15 | 8 => u 0 | 9 => u 1 | 10 => u 2 | 11 => u 3 | 12 => u 4 | 13 => u 5 | 14 => u 6 | 15 => u 7 | 16 => u 8 | _ => u 16
theorem bLs_succ {K : Nat → ClassId} {l0 m n : Nat} {aB : Nat → Nat → Nat} {a : Nat → Nat} {s : Nat → Int32} {f : Nat → Nat → Int32} {j : Nat} : bLs K l0 m n (fup aB j a) (fun _ => s) (fun _ => f) (List.range (j + 1)) = bLs K l0 m n aB (fun _ => s) (fun _ => f) (List.range j) ++ balC K l0 m n a s f := by
  unfold bLs
  rw [List.range_succ, List.flatMap_append]
  congr 1
  · exact fm_congr (fun i hi => by rw [fup_n (Nat.ne_of_lt (List.mem_range.mp hi))])
  · rw [List.flatMap_cons, List.flatMap_nil, List.append_nil, fup_s]
theorem bl_step {K : Nat → ClassId} {C T : va_W} {l0 m n : Nat} {fN sN : Nat → Nat} {aB : Nat → Nat → Nat} {u : Nat → Nat} {z j : Nat} : (C ++ ([cO z 1 [.ref (u 9), .ref (u 12), .ref (u 0), .ref (u 8), .int 1, .ref (u 16)], cO (u 0) 3 [.ref (u 1), .ref (u 5), .ref (u 6), .ref (u 7)], cO (u 1) 6 [.ref (u 2), .ref (u 3), .ref (u 4), .int 0], cI K (u 2) 8 (fun _ => 0), cI K (u 3) 8 (fun _ => 0), cZ K (u 4) 8 (fun _ => 0), cI K (u 5) 8 (fun _ => 0), cI K (u 6) 8 (fun _ => 0), cI K (u 7) 8 (fun _ => 0), cO (u 8) 7 [.int 65530], cO (u 9) 9 [.ref (u 10), .ref (u 11)], cZ K (u 10) n (f_fill n 0 1 (fun _ => 0)), cI K (u 11) n (fun _ => 0), cO (u 12) 8 [.int 0, .ref l0, .ref (u 13), .ref (u 14), .ref (u 15)], cI K (u 13) m (f_tab fN sN m n (f_fill n 0 1 (fun _ => 0)) (fun _ => 0) (fun _ => 0)).1, cI K (u 14) m (fun _ => 0), cI K (u 15) n (f_tab fN sN m n (f_fill n 0 1 (fun _ => 0)) (fun _ => 0) (fun _ => 0)).2.1, cZ K (u 16) n (fun _ => 0)] ++ (bLs K l0 m n aB (fun _ => iB0) (fun _ => iG0 fN sN m n) (List.range j) ++ T))).Perm (C ++ (bLs K l0 m n (fup aB j (bAd z u)) (fun _ => iB0) (fun _ => iG0 fN sN m n) (List.range (j + 1)) ++ T)) := by
  refine List.Perm.append_left C ?_
  rw [bLs_succ, ← List.append_assoc]
  refine List.Perm.append_right T ?_
  refine List.Perm.trans (List.Perm.append_right _ (?_ : List.Perm _ (balC K l0 m n (bAd z u) iB0 (iG0 fN sN m n)))) List.perm_append_comm
  exact zperm_idx [0, 10, 11, 12, 13, 14, 15, 16, 1, 2, 3, 4, 5, 6, 7, 8, 9, 17] (by show ([0, 10, 11, 12, 13, 14, 15, 16, 1, 2, 3, 4, 5, 6, 7, 8, 9, 17] : List Nat).Perm (List.range 18); decide) rfl
def rAd (a : Nat → Nat → Nat) (j : Nat) : Nat → Option Nat := fun i => if i < j then some (a i 0) else none
theorem rAd_up {a : Nat → Nat → Nat} {x : Nat → Nat} {j : Nat} : va_up (rAd a j) j (some (x 0)) = rAd (fup a j x) (j + 1) := funext fun i => by
  unfold va_up rAd
  by_cases e : i = j
  · subst e
    rw [if_pos rfl, if_pos (Nat.lt_succ_self i), fup_s]
  · rw [if_neg e, fup_n e]
    by_cases h : i < j
    · rw [if_pos h, if_pos (by omega)]
    · rw [if_neg h, if_neg (by omega)]
theorem rAd_at {a : Nat → Nat → Nat} {n j : Nat} (h : j < n) : rAd a n j = some (a j 0) := if_pos h
abbrev iS : Type := (Nat → Nat) × (ClassId × ClassId) × (Nat → Nat → Nat) × (Nat → Nat → Nat)
theorem zx_pret {p : Program} {l : Launch} {e : Env} {R : Room} {s : State} {m : MethodId} {args : Array Value} {below : List Frame} {meth : Method} {c : Code} {cells slots : Nat} {cc : ByteArray} {nL pc : Nat} {D : va_G} {K : Nat → ClassId} {M : List (ClassId × FieldType)} {A : Nat → Prop} {ws : va_W} {lv : List (Nat × Value)} {own : String} {S : Type} (hF : zF p s m args c cc nL own D K M A) (hr : meth.sig.returnType = none) (hlk : meth.locks = false) (u : S) {M1 : S → List (ClassId × FieldType)} {w1 : S → va_W} (hK1 : va_K D zCl (zTy K (M1 u)) s) (hw : ws = w1 u) (hdg : decode cc pc = .ok (.return_, 1)) : zW p l e R s m args below meth c D A cells slots (MQ below (va_Qv (fun (_ : S) => True) (fun u => zB D K (M1 u) A (w1 u)) A) args s cells slots A) nL ws lv pc [] := fun _ _ _ h1 h2 h3 h4 => W.vret hF.1 hF.2.1 hr (fun t ht hW => ⟨⟨u, rfl, trivial, by rw [ht, ← hw]; exact h2, va_K.moved hW.alike hK1, hw ▸ h3⟩, h4.F ht⟩) h4.2.2 hdg hlk
