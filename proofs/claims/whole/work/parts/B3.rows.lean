/-! rows of the law's cases -/
def zbo (x : Int32) : Int32 := if x = 0 then 0 else 1
theorem zbo01 (x : Int32) : zbo x = 0 ∨ zbo x = 1 := by
  unfold zbo
  split
  · exact Or.inl rfl
  · exact Or.inr rfl
theorem bLs_bk {K : Nat → ClassId} {l0 m n B b : Nat} {aB : Nat → Nat → Nat} {bs : Nat → Nat → Int32} {bf : Nat → Nat → Nat → Int32} {S : Nat → Int32} {F : Nat → Nat → Int32} (hb : b < B) : (bLs K l0 m n aB (fup bs b S) (fup bf b F) (List.range B)).Perm (balC K l0 m n (aB b) S F ++ bLs K l0 m n aB bs bf ((List.range B).erase b)) := by
  have h := bLs_foc (K := K) (l0 := l0) (m := m) (n := n) (aB := aB) (bs := bs) (bf := bf) (bs' := fup bs b S) (bf' := fup bf b F) hb (fun i hi => fup_n hi) (fun i hi => fup_n hi)
  rw [fup_s, fup_s] at h
  exact h
theorem sLs_bk {K : Nat → ClassId} {n q : Nat} {aS : Nat → Nat → Nat} {ss : Nat → Nat → Int32} {sf : Nat → Nat → Nat → Int32} {S : Nat → Int32} {F : Nat → Nat → Int32} (hq : q < n) : (sLs K aS (fup ss q S) (fup sf q F) (List.range n)).Perm (srvC K (aS q) S F ++ sLs K aS ss sf ((List.range n).erase q)) := by
  have h := sLs_foc (K := K) (aS := aS) (ss := ss) (sf := sf) (ss' := fup ss q S) (sf' := fup sf q F) hq (fun i hi => fup_n hi) (fun i hi => fup_n hi)
  rw [fup_s, fup_s] at h
  exact h
theorem bLs_go {K : Nat → ClassId} {l0 m n B b : Nat} {aB : Nat → Nat → Nat} {bs : Nat → Nat → Int32} {bf : Nat → Nat → Nat → Int32} (hb : b < B) : (bLs K l0 m n aB bs bf (List.range B)).Perm (balC K l0 m n (aB b) (bs b) (bf b) ++ bLs K l0 m n aB bs bf ((List.range B).erase b)) := bLs_foc hb (fun _ _ => rfl) (fun _ _ => rfl)
theorem sLs_go {K : Nat → ClassId} {n q : Nat} {aS : Nat → Nat → Nat} {ss : Nat → Nat → Int32} {sf : Nat → Nat → Nat → Int32} (hq : q < n) : (sLs K aS ss sf (List.range n)).Perm (srvC K (aS q) (ss q) (sf q) ++ sLs K aS ss sf ((List.range n).erase q)) := sLs_foc hq (fun _ _ => rfl) (fun _ _ => rfl)
section ZC
variable {p : Program} {l : Launch} {e : Env} {R : Room} {s : State} {m : MethodId} {args : Array Value} {below : List Frame} {meth : Method} {c : Code} {cells slots : Nat} {Q : State → Prop}
variable {cc : ByteArray} {nL pc : Nat} {rest : List Value} {D : va_G} {K : Nat → ClassId} {M : List (ClassId × FieldType)} {A : Nat → Prop} {ws : va_W} {lv : List (Nat × Value)} {own : String}
/-- an int of the script goes on the stack -/
theorem zx_arg {lv1 lv2 : Nat × Value} (hF : zF p s m args c cc nL own D K M A) {b L : Nat} {xs : Nat → Int32} (hX : va_X b L xs s s.heap) (hb : b < s.heap.size) (hA : ¬ A b) {i : Nat} {jv : Int} (j : Nat) (hij : i + j < L) (hL : L ≤ 3076) (hl : lv = [(3, .int (nI i)), lv1, lv2, (0, .ref b)]) (hj : Int32.ofInt jv = nI j) (d0 : decode cc pc = .ok (.aload_n 0, 1)) (d1 : decode cc (pc + 1) = .ok (.iload_n 3, 1)) (d2 : decode cc (pc + 2) = .ok (.iconst jv, 1)) (d3 : decode cc (pc + 3) = .ok (.iadd, 1)) (d4 : decode cc (pc + 4) = .ok (.iaload, 1))
    (k : zW p l e R s m args below meth c D A cells slots Q nL ws lv (pc + 5) (.int (xs (i + j)) :: rest)) : zW p l e R s m args below meth c D A cells slots Q nL ws lv pc rest := by
  subst hl
  refine zx_aload_n (x := b) hF d0 rfl 3 rfl ?_
  refine zx_iload_n (x := nI i) hF d1 rfl 0 rfl ?_
  refine zx_iconst hF d2 hj ?_
  refine zx_iadd hF d3 ?_
  refine zx_topi (nI (i + j)) (nI_add i j) ?_
  exact zx_sld hF hX hb hA hij (by omega) d4 k
/-- x != 0 -/
theorem zx_bool (hF : zF p s m args c cc nL own D K M A) {o1 o2 : Int} {x : Int32} (t1 t2 : Nat) (h1 : (pc : Int) + o1 = (t1 : Int)) (h2 : ((pc + 3 + 1 : Nat) : Int) + o2 = (t2 : Int)) (h3 : t2 = t1 + 1) (d0 : decode cc pc = .ok (.ifCond .eq o1, 3)) (d1 : decode cc (pc + 3) = .ok (.iconst 1, 1)) (d2 : decode cc (pc + 3 + 1) = .ok (.goto o2, 3)) (d3 : decode cc t1 = .ok (.iconst 0, 1))
    (k : zW p l e R s m args below meth c D A cells slots Q nL ws lv t2 (.int (zbo x) :: rest)) : zW p l e R s m args below meth c D A cells slots Q nL ws lv pc (.int x :: rest) := by
  refine zx_if_eq hF d0 h1 (fun h => ?_) (fun h => ?_)
  · refine zx_iconst (v := 0) hF d3 rfl ?_
    have e : zbo x = 0 := if_pos h
    rw [e, h3] at k
    exact k
  · refine zx_iconst (v := 1) hF d1 rfl ?_
    refine zx_goto hF d2 h2 ?_
    have e : zbo x = 1 := if_neg h
    rw [e] at k
    exact k
end ZC
theorem fup_id {α : Type} {f : Nat → α} {k : Nat} : fup f k (f k) = f := funext fun j => by
  by_cases z : j = k
  · subst z; rw [fup_s]
  · rw [fup_n z]
theorem in_of {b : Int32} {N : Nat} (h : ¬ (b < 0 ∨ nI N ≤ b)) (hN : N < 2 ^ 31) : ∃ k, k < N ∧ b = nI k := by
  rcases is_or b hN with g | g
  · exfalso
    unfold g_is at g
    rw [if_neg (fun z => h (Or.inl z)), if_neg (fun z => h (Or.inr z))] at g
    exact absurd g (by decide)
  · exact g
