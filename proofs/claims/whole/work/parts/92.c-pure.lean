theorem f_meets01 (x y : Int32) : f_meets x y = 0 ∨ f_meets x y = 1 := by
  unfold f_meets
  split
  · exact Or.inl rfl
  · split
    · exact Or.inr rfl
    · exact Or.inl rfl
theorem znd3 {a b c : Nat} (h1 : a ≠ b) (h2 : a ≠ c) (h3 : b ≠ c) : [a, b, c].Nodup := by simp [h1, h2, h3]
theorem zset_id {ws : va_W} {i : Nat} {x : Nat × va_E} (h : ws[i]? = some x) : ws.set i x = ws := by
  apply List.ext_getElem?
  intro k
  by_cases e : i = k
  · subst e
    rw [List.getElem?_set_self (List.getElem?_eq_some_iff.mp h).1, h]
  · rw [List.getElem?_set_ne e]
theorem zset_self {ws : va_W} : ∀ (is : List Nat) (wc : va_W), is.map (fun i => ws[i]?) = wc.map some → zset ws is wc = ws
  | [], wc, _ => zset_nil ws wc
  | _ :: _, [], h => by simp at h
  | i :: is, x :: wc, h => by
    simp only [List.map_cons, List.cons.injEq] at h
    show zset (ws.set i x) is wc = ws
    rw [zset_id h.1]
    exact zset_self is wc h.2
/-- every server's object stands in T, with its answer to 'is it on?' -/
def f_TS (rs : Nat → Option Nat) (T : va_W) (n : Nat) (onf : Nat → Int32) : Prop := ∀ j, j < n → ∃ (q o c0 c1 v1 v2 : Nat) (tk : Int32), rs j = some o ∧ T[q]? = some (cO o 5 [.ref c0, .ref c1, .int (onf j), .int tk, .ref v1, .ref v2])
abbrev f_P : Type := (Nat → Int32) × (Nat → Int32) × Nat
def f_prs (onf cut : Nat → Int32) : Nat → Nat → f_P → f_P
  | 0, _, x => x
  | k + 1, j, x => f_prs onf cut k (j + 1) (f_ou x.1 x.2.1 j (f_meets (onf j) (cut j)), f_on x.1 x.2.1 j (f_meets (onf j) (cut j)), if f_or x.1 x.2.1 j (f_meets (onf j) (cut j)) = 0 then x.2.2 else x.2.2 + 1)
