theorem z01_fill (n : Nat) : z01 (f_fill n 0 1 (fun _ => 0)) := fun j => by
  rw [f_fill_at]
  split
  · exact Or.inr rfl
  · exact Or.inl rfl
