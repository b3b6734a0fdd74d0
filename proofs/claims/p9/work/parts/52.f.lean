theorem T0_0 : T0 xs0 := by
  refine ⟨rfl, rfl, fun m m0 m1 => ⟨fun hm => ?_, fun _ => ?_⟩⟩
  · have h1 : xs0 256 1 = 1 := rfl
    rw [h1] at hm
    have : m.toNat = 0 := by omega
    rw [this]
    exact ⟨rfl, rfl⟩
  · rfl
theorem G1_0 : G1 xs0 := by
  refine ⟨rfl, fun g g0 g1 g2 => ?_⟩
  have : g < 0 := g2
  omega
