theorem T0_0 : T0 xs0 := by
  refine ⟨rfl, rfl, fun m m0 m1 => ⟨fun hm => ?_, fun _ => ?_⟩⟩
  · have h1 : xs0 256 1 = 1 := rfl
    rw [h1] at hm
    have : m.toNat = 0 := by omega
    rw [this]
    exact ⟨rfl, rfl⟩
  · rfl
theorem S1_0 : S1 xs0 := by
  refine ⟨rfl, fun t t0 t1 => ⟨fun _ => rfl, fun _ => rfl, fun i i0 i1 => ?_⟩⟩
  have e : xs0 (233 + 1 + t.toNat) i.toNat = 0 := xs0_z (by omega) (by omega) (by omega) (by omega) (by omega) (by omega) (by omega) (by omega) (by omega) (by omega)
  rw [e]
  exact ⟨fun _ => rfl, fun _ => rfl⟩
