theorem agStep_4 {s nw : Nat → Int} {nz : Int} : endIf nz nw s 4 = s 4 ∧ endIf nz nw s 3 = s 3 := by
  unfold endIf
  by_cases h : s 4 = s 5
  · rw [if_pos h]
    exact ⟨endS_ne (by omega), endS_ne (by omega)⟩
  · rw [if_neg h]
    exact ⟨rfl, rfl⟩
