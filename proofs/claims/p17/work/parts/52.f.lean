theorem X1_0 : X1 xs0 := by
  refine ⟨rfl, funext fun j => ?_, rfl, rfl, rfl⟩
  rfl
