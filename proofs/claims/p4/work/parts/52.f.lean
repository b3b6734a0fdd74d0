theorem T0_0 : T0 xs0 := by
  refine ⟨rfl, rfl, fun m m0 m1 => ⟨fun hm => ?_, fun _ => ?_⟩⟩
  · have h1 : xs0 256 1 = 1 := rfl
    rw [h1] at hm
    have : m.toNat = 0 := by omega
    rw [this]
    exact ⟨rfl, rfl⟩
  · rfl
theorem P1_0 : P1 xs0 := by
  intro m m0 m1
  have h1 : xs0 256 1 = 1 := rfl
  rw [h1] at m1
  have : m = 0 := by omega
  subst this
  refine ⟨by decide, fun e _ e1 e2 => ?_⟩
  have e6 : xs0 (5 + 1 + (0 : Int).toNat) e.toNat = -1 := rfl
  have e7 : xs0 260 (10 * 0 + e).toNat = -1 := by
    unfold xs0
    rw [if_pos rfl, if_pos (by omega)]
  rw [e6, e7]
