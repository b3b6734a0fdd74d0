theorem T0_0 : T0 xs0 := by
  refine ⟨rfl, rfl, fun m m0 m1 => ⟨fun hm => ?_, fun _ => ?_⟩⟩
  · have h1 : xs0 256 1 = 1 := rfl
    rw [h1] at hm
    have : m.toNat = 0 := by omega
    rw [this]
    exact ⟨rfl, rfl⟩
  · rfl
theorem W1_0 : W1 xs0 := by
  refine ⟨rfl, fun i i0 i1 => ?_, fun i j i0 i1 j1 => ?_⟩
  · have : i < 0 := i1
    omega
  · have : j < 0 := j1
    omega
