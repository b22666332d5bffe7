/-! both sides at the start -/
def iU : Nat → Int32 := fun i => if i = 2 then -1 else if i = 4 then -1 else if i = 5 then -1 else 0
def iMA (B : Nat) : Nat → Nat → Int32 := fun i => if i = 2 then f_fill B 0 1 (fun _ => 0) else if i = 3 then f_fill B 0 65530 (fun _ => 0) else fun _ => 0
def iX : Nat → Int32 := fun i => if i = 1 then -1 else if i = 2 then -1 else if i = 3 then -1 else 0
theorem rA_init {fN sN : Nat → Nat} {m n B : Nat} (hn : 0 < n ∧ n ≤ 8) : rA fN sN m n B iU (iMA B) iX (fun _ _ => 0) (fun _ => iB0) (fun _ => iG0 fN sN m n) (fun _ => iS0) (fun _ => iF0) := by
  have v0 : vp_in 0 n := vp_in_nI hn.1 (by omega)
  have up : ∀ k, f_fill n 0 1 (fun _ => 0) k = 0 ∨ f_fill n 0 1 (fun _ => 0) k = 1 := fun k => by
    rw [f_fill_at]
    split
    · exact Or.inr rfl
    · exact Or.inl rfl
  have c0 : ∀ k, cU (fun _ => 0) k = 0 := fun k => cN_0 k (fun p _ => rfl)
  refine ⟨⟨rfl, fun i hi => rfl, rfl, rfl, rfl, rfl, Or.inl ⟨?_, fun t _ => rfl⟩⟩, fun b hb => ⟨⟨?_, Or.inr rfl⟩, rfl, ⟨65530, by omega, ?_, rfl⟩, ⟨up, fun k hk => ?_, fun k hk => rfl⟩, ⟨fun _ => 0, fun _ => 0, rfl⟩, ⟨fun e he => Or.inl rfl, fun e he => rfl, fun e he => rfl, fun e he => rfl, fun e he => v0, fun e he z => rfl, fun e he z => absurd rfl z, ?_⟩, fun k hk => ⟨rfl, Or.inl rfl⟩⟩, fun q hq => ⟨⟨Or.inr rfl, rfl⟩, ⟨0, by omega, rfl, rfl⟩, ⟨fun e he => Or.inl rfl, fun e he => rfl, fun e he => rfl, fun e he => rfl, fun e he => rfl, fun e he => rfl, ?_⟩, fun z => absurd z (show ¬ (1 : Int32) = 0 by decide)⟩, fun e he => v0⟩
  · decide
  · show f_fill B 0 1 (fun _ => 0) b = 1
    rw [f_fill_at, if_pos (by omega)]
  · show f_fill B 0 65530 (fun _ => 0) b = nI 65530
    rw [f_fill_at, if_pos (by omega)]; rfl
  · show 0 = f_not (f_fill n 0 1 (fun _ => 0) k)
    rw [f_fill_at, if_pos (by omega)]; rfl
  · show 0 = nI (cU (fun _ => 0) 8)
    rw [c0]; rfl
  · show 0 = nI (cU (fun _ => 0) 10)
    rw [c0]; rfl
