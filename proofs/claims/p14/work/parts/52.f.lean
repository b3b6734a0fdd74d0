theorem T0_0 : T0 xs0 := by
  refine ⟨rfl, rfl, fun m m0 m1 => ⟨fun hm => ?_, fun _ => ?_⟩⟩
  · have h1 : xs0 256 1 = 1 := rfl
    rw [h1] at hm
    have : m.toNat = 0 := by omega
    rw [this]
    exact ⟨rfl, rfl⟩
  · rfl
theorem P1_0 : P1 xs0 := by
  intro m m0 m1
  have h1 : xs0 256 1 = 1 := rfl
  rw [h1] at m1
  have : m = 0 := by omega
  subst this
  refine ⟨by decide, fun e _ e1 e2 => ?_⟩
  have e6 : xs0 (5 + 1 + (0 : Int).toNat) e.toNat = -1 := rfl
  have e7 : xs0 260 (10 * 0 + e).toNat = -1 := by
    unfold xs0
    rw [if_pos rfl, if_pos (by omega)]
  rw [e6, e7]
theorem JT_0 : JT xs0 := fun m m0 m1 => by
  have e4 : xs0 4 m.toNat = -1 := by unfold xs0; rw [if_neg (by omega), if_neg (by omega), if_pos (by omega)]
  refine ⟨fun _ => e4, fun w => ?_⟩
  have w : m < 1 := w
  have : m = 0 := by omega
  subst this
  exact ⟨rfl, fun z => by rw [e4] at z; omega⟩
theorem Q2_0 : Q2 xs0 := Q2_0' rfl (fun r j h1 h2 => by unfold xs0; rw [if_neg (by omega), if_neg (by omega), if_pos (by omega)])
theorem TR_0 : TR xs0 := ⟨T0_0, P1_0, Q2_0, JT_0⟩
theorem X1_0 : X1 xs0 := by
  refine ⟨rfl, funext fun j => ?_, rfl, rfl, rfl⟩
  rfl
theorem R1_0 : R1 xs0 := ⟨⟨rfl, by show (0 : Int) ≤ 8; omega⟩, rfl, fun r r0 r1 => by
  have : r < 0 := r1
  omega⟩
theorem G1_0 : G1 xs0 := by
  refine ⟨rfl, fun g g0 g1 g2 => ?_⟩
  have : g < 0 := g2
  omega
theorem G3_0 : G3 xs0 := ⟨rfl, fun g g0 g1 g2 => by
  have : g < 0 := g2
  omega⟩
theorem W1_0 : W1 xs0 := by
  refine ⟨rfl, fun i i0 i1 => ?_, fun i j i0 i1 j1 => ?_⟩
  · have : i < 0 := i1
    omega
  · have : j < 0 := j1
    omega
theorem VCj_0 : VCj xs0 := fun w => absurd (show xs0 243 11 = 0 from rfl) w
theorem VCl_0 : VCl xs0 := fun w => absurd (show xs0 243 12 = -1 from rfl) w
