set_option maxHeartbeats 8000000 in
theorem E_X10_oneIf (s0 : xS) (hG0 : GI s0) (a : Int) (b_a : 0 ≤ a ∧ a ≤ 1) : xe none 126 0 (lv_args 0 [vi a]) [] s0 0 0 (fun s' v => GI s' ∧ FL [] s0 s' ∧ ∃ z, v = some (vi z) ∧ (0 ≤ z ∧ z ≤ 1) ∧ (z = a)) := by
  have f0 : FL [] s0 s0 := FL.rf
  show xe none 126 0 [(0, vi a)] [] s0 0 0 _
  refine x_A k126_0 (fun _ => rfl) ?_
  refine x_if_eq k126_1 (t := 8) rfl (by first | exact x_rb b_a rfl rfl | exact ⟨by omega, by omega⟩) (fun c1 => ?_) (fun c1 => ?_)
  · skip
    refine x_A k126_8 (fun _ => rfl) ?_
    exact x_iret k126_9 rfl ⟨hG0, f0, 0, rfl, ⟨by decide, by decide⟩, by omega⟩
  · skip
    refine x_A k126_4 (fun _ => rfl) ?_
    refine x_goto k126_5 (t := 9) rfl ?_
    exact x_iret k126_9 rfl ⟨hG0, f0, 1, rfl, ⟨by decide, by decide⟩, by omega⟩
set_option maxHeartbeats 8000000 in
theorem E_X11_shows_256 (s0 : xS) (hG0 : GI s0) (a : Int) (b_a : 0 ≤ a ∧ a ≤ 39) (b : Int) (b_b : 0 ≤ b ∧ b ≤ 2147483647) : xe none 169 0 (lv_args 0 [.ref 256, vi a, vi b]) [] s0 0 0 (fun s' v => GI s' ∧ FL [] s0 s' ∧ ∃ z, v = some (vi z) ∧ (0 ≤ z ∧ z ≤ 1) ∧ ((z = 1 ∧ shR s0 a b) ∨ (z = 0 ∧ ¬ shR s0 a b))) := by
  have f0 : FL [] s0 s0 := FL.rf
  show xe none 169 0 [(0, .ref 256), (1, vi a), (2, vi b)] [] s0 0 0 _
  refine x_A k169_0 (fun _ => rfl) ?_
  refine x_bipush k169_1 (by decide +kernel) ?_
  refine x_ic_ge k169_3 (t := 25) rfl (by first | exact x_rb b_b rfl rfl | exact ⟨by omega, by omega⟩) ⟨by decide, by decide⟩ (fun c1 => ?_) (fun c1 => ?_)
  · skip
    refine x_A k169_25 (fun _ => rfl) ?_
    exact x_zret k169_26 rfl ⟨by omega, by omega⟩ ⟨hG0, f0, 0, rfl, ⟨by decide, by decide⟩, (Or.inr ⟨rfl, fun q => by have q1 := q.1; omega⟩)⟩
  · skip
    refine x_A k169_6 (fun _ => rfl) ?_
    refine x_getR k169_7 (f := 32) rfl (q := 256) (n := 62) (kd := 15) ⟨by decide, rfl⟩ (q2 := 282) (by decide) rfl ?_
    refine x_A k169_10 (fun _ => rfl) ?_
    refine x_lald k169_11 (q := 282) (n := 40) ⟨by decide, rfl⟩ (by decide) (by first | exact x_rbl b_a rfl rfl | exact ⟨by omega, by omega⟩) ?_
    refine x_topL (fun z2 e_z2 => ?_)
    have b_z2 : in64 z2 := by rw [e_z2]; exact hG0 282 a.toNat
    refine x_A k169_12 (fun _ => rfl) ?_
    refine x_lshr_b k169_13 ⟨by omega, by omega⟩ (fun z3 b_z3 u_z3 => ?_)
    refine x_lconst k169_14 (z := 1) (by decide +kernel) ?_
    refine x_land_b k169_15 (fun z4 b_z4 g_z4 => ?_)
    refine x_lconst k169_16 (z := 1) (by decide +kernel) ?_
    refine x_lc_ne k169_17 k169_18 (t := 25) rfl b_z4 ⟨by omega, by omega⟩ (fun c5 => ?_) (fun c5 => ?_)
    · skip
      refine x_A k169_25 (fun _ => rfl) ?_
      exact x_zret k169_26 rfl ⟨by omega, by omega⟩ ⟨hG0, f0, 0, rfl, ⟨by decide, by decide⟩, (by have bl := bt_low1 b_z4 g_z4; have bu : bt z3 0 = bt z2 b.toNat := u_z3 0 (by omega); exact Or.inr ⟨rfl, fun q => by have q2 := q.2; rw [← e_z2, ← bu, (bl.resolve_right (fun q => by omega)).2] at q2; cases q2⟩)⟩
    · skip
      refine x_A k169_21 (fun _ => rfl) ?_
      refine x_goto k169_22 (t := 26) rfl ?_
      exact x_zret k169_26 rfl ⟨by omega, by omega⟩ ⟨hG0, f0, 1, rfl, ⟨by decide, by decide⟩, (by have bl := bt_low1 b_z4 g_z4; have bu : bt z3 0 = bt z2 b.toNat := u_z3 0 (by omega); exact Or.inl ⟨rfl, by omega, by rw [← e_z2]; exact bu.symm.trans (bl.resolve_left (fun q => by omega)).2⟩)⟩
