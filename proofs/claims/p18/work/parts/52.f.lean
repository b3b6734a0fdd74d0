theorem X1_0 : X1 xs0 := by
  refine ⟨rfl, funext fun j => ?_, rfl, rfl, rfl⟩
  rfl
theorem R1_0 : R1 xs0 := ⟨⟨rfl, by show (0 : Int) ≤ 8; omega⟩, rfl, fun r r0 r1 => by
  have : r < 0 := r1
  omega⟩
