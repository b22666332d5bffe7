def fup {α : Type} (f : Nat → α) (k : Nat) (v : α) : Nat → α := fun j => if j = k then v else f j
theorem fup_s {α : Type} {f : Nat → α} {k : Nat} {v : α} : fup f k v k = v := if_pos rfl
theorem fup_n {α : Type} {f : Nat → α} {k j : Nat} {v : α} (h : j ≠ k) : fup f k v j = f j := if_neg h
/-- the cells of a balancer: scalars s (live, changes, entries, stamp), arrays f -/
def balC (K : Nat → ClassId) (l0 m n : Nat) (a : Nat → Nat) (s : Nat → Int32) (f : Nat → Nat → Int32) : va_W := [cO (a 0) 1 [.ref (a 1), .ref (a 4), .ref (a 8), .ref (a 16), .int (s 0), .ref (a 17)], cO (a 1) 9 [.ref (a 2), .ref (a 3)], cZ K (a 2) n (f 0), cI K (a 3) n (f 1), cO (a 4) 8 [.int (s 1), .ref l0, .ref (a 5), .ref (a 6), .ref (a 7)], cI K (a 5) m (f 2), cI K (a 6) m (f 3), cI K (a 7) n (f 4), cO (a 8) 3 [.ref (a 9), .ref (a 13), .ref (a 14), .ref (a 15)], cO (a 9) 6 [.ref (a 10), .ref (a 11), .ref (a 12), .int (s 2)], cI K (a 10) 8 (f 5), cI K (a 11) 8 (f 6), cZ K (a 12) 8 (f 7), cI K (a 13) 8 (f 8), cI K (a 14) 8 (f 9), cI K (a 15) 8 (f 10), cO (a 16) 7 [.int (s 3)], cZ K (a 17) n (f 11)]
/-- the cells of a server: scalars s (on, taken, sessions, stamp), arrays f -/
def srvC (K : Nat → ClassId) (a : Nat → Nat) (s : Nat → Int32) (f : Nat → Nat → Int32) : va_W := [cO (a 0) 5 [.ref (a 1), .ref (a 7), .int (s 0), .int (s 1), .ref (a 5), .ref (a 6)], cO (a 1) 6 [.ref (a 2), .ref (a 3), .ref (a 4), .int (s 2)], cI K (a 2) 10 (f 0), cI K (a 3) 10 (f 1), cZ K (a 4) 10 (f 2), cI K (a 5) 10 (f 3), cI K (a 6) 10 (f 4), cO (a 7) 7 [.int (s 3)]]
def bLs (K : Nat → ClassId) (l0 m n : Nat) (aB : Nat → Nat → Nat) (bs : Nat → Nat → Int32) (bf : Nat → Nat → Nat → Int32) (L : List Nat) : va_W := L.flatMap (fun b => balC K l0 m n (aB b) (bs b) (bf b))
def sLs (K : Nat → ClassId) (aS : Nat → Nat → Nat) (ss : Nat → Nat → Int32) (sf : Nat → Nat → Nat → Int32) (L : List Nat) : va_W := L.flatMap (fun k => srvC K (aS k) (ss k) (sf k))
theorem fm_congr {f g : Nat → va_W} {L : List Nat} (h : ∀ i ∈ L, f i = g i) : L.flatMap f = L.flatMap g := by
  rw [List.flatMap_def, List.flatMap_def, List.map_congr_left h]
theorem fm_foc {f f' : Nat → va_W} {B b : Nat} (hb : b < B) (h : ∀ i, i ≠ b → f' i = f i) : ((List.range B).flatMap f').Perm (f' b ++ ((List.range B).erase b).flatMap f) := by
  have h1 : (List.range B).Perm (b :: (List.range B).erase b) := List.perm_cons_erase (List.mem_range.mpr hb)
  refine (List.Perm.flatMap_right f' h1).trans ?_
  rw [List.flatMap_cons, fm_congr (L := (List.range B).erase b) (f := f') (g := f) (fun i hi => h i ((List.nodup_range.mem_erase_iff).mp hi).1)]
theorem bLs_foc {K : Nat → ClassId} {l0 m n B b : Nat} {aB : Nat → Nat → Nat} {bs bs' : Nat → Nat → Int32} {bf bf' : Nat → Nat → Nat → Int32} (hb : b < B) (h1 : ∀ i, i ≠ b → bs' i = bs i) (h2 : ∀ i, i ≠ b → bf' i = bf i) : (bLs K l0 m n aB bs' bf' (List.range B)).Perm (balC K l0 m n (aB b) (bs' b) (bf' b) ++ bLs K l0 m n aB bs bf ((List.range B).erase b)) := fm_foc hb (fun i hi => by rw [h1 i hi, h2 i hi])
theorem sLs_foc {K : Nat → ClassId} {n k : Nat} {aS : Nat → Nat → Nat} {ss ss' : Nat → Nat → Int32} {sf sf' : Nat → Nat → Nat → Int32} (hk : k < n) (h1 : ∀ i, i ≠ k → ss' i = ss i) (h2 : ∀ i, i ≠ k → sf' i = sf i) : (sLs K aS ss' sf' (List.range n)).Perm (srvC K (aS k) (ss' k) (sf' k) ++ sLs K aS ss sf ((List.range n).erase k)) := fm_foc hk (fun i hi => by rw [h1 i hi, h2 i hi])
/-- a tick over a balancer's entries -/
def tkR (t : Int32) (s : Nat → Int32) (f : Nat → Nat → Int32) : (Nat → Int32) × Int32 := f_relP (f_old (f 10) (f 9) t) 8 0 (f 7) (s 2)
def tkB (t : Int32) (bs : Nat → Nat → Int32) (bf : Nat → Nat → Nat → Int32) (j : Nat) : Nat → Nat → Int32 := fun b => if b < j then upd (bs b) 2 (tkR t (bs b) (bf b)).2 else bs b
def tkF (t : Int32) (bs : Nat → Nat → Int32) (bf : Nat → Nat → Nat → Int32) (j : Nat) : Nat → Nat → Nat → Int32 := fun b => if b < j then fup (bf b) 7 (tkR t (bs b) (bf b)).1 else bf b
theorem tkB_0 {t : Int32} {bs : Nat → Nat → Int32} {bf : Nat → Nat → Nat → Int32} : tkB t bs bf 0 = bs := funext fun b => if_neg (Nat.not_lt_zero b)
theorem tkF_0 {t : Int32} {bs : Nat → Nat → Int32} {bf : Nat → Nat → Nat → Int32} : tkF t bs bf 0 = bf := funext fun b => if_neg (Nat.not_lt_zero b)
theorem tk_foc {K : Nat → ClassId} {l0 m n B j : Nat} {aB : Nat → Nat → Nat} {bs : Nat → Nat → Int32} {bf : Nat → Nat → Nat → Int32} {t : Int32} {p q : Nat × va_E} {T : va_W} (hj : j < B) : (p :: q :: (bLs K l0 m n aB (tkB t bs bf j) (tkF t bs bf j) (List.range B) ++ T)).Perm (p :: q :: (balC K l0 m n (aB j) (bs j) (bf j) ++ (bLs K l0 m n aB (tkB t bs bf j) (tkF t bs bf j) ((List.range B).erase j) ++ T))) := by
  have h := (bLs_foc (K := K) (l0 := l0) (m := m) (n := n) (aB := aB) (bs' := tkB t bs bf j) (bf' := tkF t bs bf j) (bs := tkB t bs bf j) (bf := tkF t bs bf j) hj (fun _ _ => rfl) (fun _ _ => rfl)).append_right T
  rw [show tkB t bs bf j j = bs j from if_neg (Nat.lt_irrefl j), show tkF t bs bf j j = bf j from if_neg (Nat.lt_irrefl j), List.append_assoc] at h
  exact (h.cons q).cons p
theorem tk_back {K : Nat → ClassId} {l0 m n B j : Nat} {aB : Nat → Nat → Nat} {bs : Nat → Nat → Int32} {bf : Nat → Nat → Nat → Int32} {t : Int32} {p q : Nat × va_E} {T : va_W} (hj : j < B) : (p :: q :: (balC K l0 m n (aB j) (upd (bs j) 2 (tkR t (bs j) (bf j)).2) (fup (bf j) 7 (tkR t (bs j) (bf j)).1) ++ (bLs K l0 m n aB (tkB t bs bf j) (tkF t bs bf j) ((List.range B).erase j) ++ T))).Perm (p :: q :: (bLs K l0 m n aB (tkB t bs bf (j + 1)) (tkF t bs bf (j + 1)) (List.range B) ++ T)) := by
  have h := (bLs_foc (K := K) (l0 := l0) (m := m) (n := n) (aB := aB) (bs' := tkB t bs bf (j + 1)) (bf' := tkF t bs bf (j + 1)) (bs := tkB t bs bf j) (bf := tkF t bs bf j) hj (fun i hi => ?_) (fun i hi => ?_)).append_right T
  · rw [show tkB t bs bf (j + 1) j = upd (bs j) 2 (tkR t (bs j) (bf j)).2 from if_pos (Nat.lt_succ_self j), show tkF t bs bf (j + 1) j = fup (bf j) 7 (tkR t (bs j) (bf j)).1 from if_pos (Nat.lt_succ_self j), List.append_assoc] at h
    exact ((h.cons q).cons p).symm
  · unfold tkB
    by_cases e : i < j
    · rw [if_pos e, if_pos (by omega)]
    · rw [if_neg e, if_neg (by omega)]
  · unfold tkF
    by_cases e : i < j
    · rw [if_pos e, if_pos (by omega)]
    · rw [if_neg e, if_neg (by omega)]
