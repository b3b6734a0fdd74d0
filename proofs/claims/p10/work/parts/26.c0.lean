theorem C_X10_isWithin (s0 : xS) (hG0 : GI s0) (a : Int) (b_a : (-2147483648) ≤ a ∧ a ≤ 2147483647) (b : Int) (b_b : (-2147483648) ≤ b ∧ b ≤ 2147483647) (c : Int) (b_c : (-2147483648) ≤ c ∧ c ≤ 2147483647) : xe none 121 0 (lv_args 0 [vi a, vi b, vi c]) [] s0 0 0 (fun s' v => s' = s0 ∧ ∃ z, v = some (vi z) ∧ (((a ≥ b ∧ a ≤ c) ∧ z = 1) ∨ (¬ (a ≥ b ∧ a ≤ c) ∧ z = 0))) := by
  have f0 : FL [] s0 s0 := FL.rf
  show xe none 121 0 [(0, vi a), (1, vi b), (2, vi c)] [] s0 0 0 _
  refine x_A k121_0 (fun _ => rfl) ?_
  refine x_A k121_1 (fun _ => rfl) ?_
  refine x_ic_lt k121_2 (t := 14) rfl (by first | exact x_rb b_a rfl rfl | exact ⟨by omega, by omega⟩) (by first | exact x_rb b_b rfl rfl | exact ⟨by omega, by omega⟩) (fun c1 => ?_) (fun c1 => ?_)
  · skip
    refine x_A k121_14 (fun _ => rfl) ?_
    exact x_zret k121_15 rfl ⟨by omega, by omega⟩ ⟨rfl, 0, rfl, by omega⟩
  · skip
    refine x_A k121_5 (fun _ => rfl) ?_
    refine x_A k121_6 (fun _ => rfl) ?_
    refine x_ic_gt k121_7 (t := 14) rfl (by first | exact x_rb b_a rfl rfl | exact ⟨by omega, by omega⟩) (by first | exact x_rb b_c rfl rfl | exact ⟨by omega, by omega⟩) (fun c2 => ?_) (fun c2 => ?_)
    · skip
      refine x_A k121_14 (fun _ => rfl) ?_
      exact x_zret k121_15 rfl ⟨by omega, by omega⟩ ⟨rfl, 0, rfl, by omega⟩
    · skip
      refine x_A k121_10 (fun _ => rfl) ?_
      refine x_goto k121_11 (t := 15) rfl ?_
      exact x_zret k121_15 rfl ⟨by omega, by omega⟩ ⟨rfl, 1, rfl, by omega⟩
theorem C_X10_isYear (s0 : xS) (hG0 : GI s0) (a : Int) (b_a : (-2147483648) ≤ a ∧ a ≤ 2147483647) : xe none 122 0 (lv_args 0 [vi a]) [] s0 0 0 (fun s' v => s' = s0 ∧ ∃ z, v = some (vi z) ∧ (((a ≥ 0 ∧ a ≤ 999) ∧ z = 1) ∨ (¬ (a ≥ 0 ∧ a ≤ 999) ∧ z = 0))) := by
  have f0 : FL [] s0 s0 := FL.rf
  show xe none 122 0 [(0, vi a)] [] s0 0 0 _
  refine x_A k122_0 (fun _ => rfl) ?_
  refine x_A k122_1 (fun _ => rfl) ?_
  refine x_sipush k122_2 (by decide +kernel) ?_
  refine x_callS k122_5 (y := 121) (n := 3) (w0 := 0) (w1 := 3) (as := [vi a, vi 0, vi 999]) (rest := []) (by decide +kernel) rfl rfl rfl rfl (xe_mono (C_X10_isWithin s0 hG0 a (by first | exact x_rb b_a rfl rfl | exact ⟨by omega, by omega⟩) 0 ⟨by decide, by decide⟩ 999 ⟨by decide, by decide⟩) ?_)
  rintro s2 v ⟨h_s2, z1, rfl, hz_z1⟩
  rw [h_s2]
  rcases hz_z1 with ⟨c_z1, e_z1⟩ | ⟨c_z1, e_z1⟩
  · rw [e_z1]
    show xe none 122 8 [(0, vi a)] [vi 1] s0 0 0 _
    exact x_zret k122_8 rfl ⟨by omega, by omega⟩ ⟨rfl, 1, rfl, by omega⟩
  · rw [e_z1]
    show xe none 122 8 [(0, vi a)] [vi 0] s0 0 0 _
    exact x_zret k122_8 rfl ⟨by omega, by omega⟩ ⟨rfl, 0, rfl, by omega⟩
theorem C_X10_isHand (s0 : xS) (hG0 : GI s0) (a : Int) (b_a : (-2147483648) ≤ a ∧ a ≤ 2147483647) : xe none 123 0 (lv_args 0 [vi a]) [] s0 0 0 (fun s' v => s' = s0 ∧ ∃ z, v = some (vi z) ∧ (((a ≥ 0 ∧ a ≤ 7) ∧ z = 1) ∨ (¬ (a ≥ 0 ∧ a ≤ 7) ∧ z = 0))) := by
  have f0 : FL [] s0 s0 := FL.rf
  show xe none 123 0 [(0, vi a)] [] s0 0 0 _
  refine x_A k123_0 (fun _ => rfl) ?_
  refine x_A k123_1 (fun _ => rfl) ?_
  refine x_bipush k123_2 (by decide +kernel) ?_
  refine x_callS k123_4 (y := 121) (n := 3) (w0 := 0) (w1 := 3) (as := [vi a, vi 0, vi 7]) (rest := []) (by decide +kernel) rfl rfl rfl rfl (xe_mono (C_X10_isWithin s0 hG0 a (by first | exact x_rb b_a rfl rfl | exact ⟨by omega, by omega⟩) 0 ⟨by decide, by decide⟩ 7 ⟨by decide, by decide⟩) ?_)
  rintro s2 v ⟨h_s2, z1, rfl, hz_z1⟩
  rw [h_s2]
  rcases hz_z1 with ⟨c_z1, e_z1⟩ | ⟨c_z1, e_z1⟩
  · rw [e_z1]
    show xe none 123 7 [(0, vi a)] [vi 1] s0 0 0 _
    exact x_zret k123_7 rfl ⟨by omega, by omega⟩ ⟨rfl, 1, rfl, by omega⟩
  · rw [e_z1]
    show xe none 123 7 [(0, vi a)] [vi 0] s0 0 0 _
    exact x_zret k123_7 rfl ⟨by omega, by omega⟩ ⟨rfl, 0, rfl, by omega⟩
theorem C_X10_isWord (s0 : xS) (hG0 : GI s0) (a : Int) (b_a : (-2147483648) ≤ a ∧ a ≤ 2147483647) (b : Int) (b_b : (-2147483648) ≤ b ∧ b ≤ 2147483647) : xe none 124 0 (lv_args 0 [vi a, vi b]) [] s0 0 0 (fun s' v => s' = s0 ∧ ∃ z, v = some (vi z) ∧ (((a ≥ 0 ∧ a ≤ 3 ∧ b ≥ 0 ∧ b ≤ 99) ∧ z = 1) ∨ (¬ (a ≥ 0 ∧ a ≤ 3 ∧ b ≥ 0 ∧ b ≤ 99) ∧ z = 0))) := by
  have f0 : FL [] s0 s0 := FL.rf
  show xe none 124 0 [(0, vi a), (1, vi b)] [] s0 0 0 _
  refine x_A k124_0 (fun _ => rfl) ?_
  refine x_A k124_1 (fun _ => rfl) ?_
  refine x_A k124_2 (fun _ => rfl) ?_
  refine x_callS k124_3 (y := 121) (n := 3) (w0 := 0) (w1 := 3) (as := [vi a, vi 0, vi 3]) (rest := []) (by decide +kernel) rfl rfl rfl rfl (xe_mono (C_X10_isWithin s0 hG0 a (by first | exact x_rb b_a rfl rfl | exact ⟨by omega, by omega⟩) 0 ⟨by decide, by decide⟩ 3 ⟨by decide, by decide⟩) ?_)
  rintro s2 v ⟨h_s2, z1, rfl, hz_z1⟩
  rw [h_s2]
  rcases hz_z1 with ⟨c_z1, e_z1⟩ | ⟨c_z1, e_z1⟩
  · rw [e_z1]
    show xe none 124 6 [(0, vi a), (1, vi b)] [vi 1] s0 0 0 _
    refine x_if_eq k124_6 (t := 23) rfl ⟨by decide, by decide⟩ (fun c3 => by exfalso; omega) (fun c3 => ?_)
    refine x_A k124_9 (fun _ => rfl) ?_
    refine x_A k124_10 (fun _ => rfl) ?_
    refine x_bipush k124_11 (by decide +kernel) ?_
    refine x_callS k124_13 (y := 121) (n := 3) (w0 := 0) (w1 := 3) (as := [vi b, vi 0, vi 99]) (rest := []) (by decide +kernel) rfl rfl rfl rfl (xe_mono (C_X10_isWithin s0 hG0 b (by first | exact x_rb b_b rfl rfl | exact ⟨by omega, by omega⟩) 0 ⟨by decide, by decide⟩ 99 ⟨by decide, by decide⟩) ?_)
    rintro s5 v ⟨h_s5, z4, rfl, hz_z4⟩
    rw [h_s5]
    rcases hz_z4 with ⟨c_z4, e_z4⟩ | ⟨c_z4, e_z4⟩
    · rw [e_z4]
      show xe none 124 16 [(0, vi a), (1, vi b)] [vi 1] s0 0 0 _
      refine x_if_eq k124_16 (t := 23) rfl ⟨by decide, by decide⟩ (fun c6 => by exfalso; omega) (fun c6 => ?_)
      refine x_A k124_19 (fun _ => rfl) ?_
      refine x_goto k124_20 (t := 24) rfl ?_
      exact x_zret k124_24 rfl ⟨by omega, by omega⟩ ⟨rfl, 1, rfl, by omega⟩
    · rw [e_z4]
      show xe none 124 16 [(0, vi a), (1, vi b)] [vi 0] s0 0 0 _
      refine x_if_eq k124_16 (t := 23) rfl ⟨by decide, by decide⟩ (fun c7 => ?_) (fun c7 => by exfalso; omega)
      refine x_A k124_23 (fun _ => rfl) ?_
      exact x_zret k124_24 rfl ⟨by omega, by omega⟩ ⟨rfl, 0, rfl, by omega⟩
  · rw [e_z1]
    show xe none 124 6 [(0, vi a), (1, vi b)] [vi 0] s0 0 0 _
    refine x_if_eq k124_6 (t := 23) rfl ⟨by decide, by decide⟩ (fun c8 => ?_) (fun c8 => by exfalso; omega)
    refine x_A k124_23 (fun _ => rfl) ?_
    exact x_zret k124_24 rfl ⟨by omega, by omega⟩ ⟨rfl, 0, rfl, by omega⟩
theorem C_X7_has_1 (s0 : xS) (hG0 : GI s0) (a : Int) (b_a : (-2147483648) ≤ a ∧ a ≤ 2147483647) : xe none 59 0 (lv_args 0 [.ref 1, vi a]) [] s0 0 0 (fun s' v => s' = s0 ∧ ∃ z, v = some (vi z) ∧ (((a ≥ 0 ∧ a < s0 1 4) ∧ z = 1) ∨ (¬ (a ≥ 0 ∧ a < s0 1 4) ∧ z = 0))) := by
  have f0 : FL [] s0 s0 := FL.rf
  show xe none 59 0 [(0, .ref 1), (1, vi a)] [] s0 0 0 _
  refine x_A k59_0 (fun _ => rfl) ?_
  refine x_if_lt k59_1 (t := 16) rfl (by first | exact x_rb b_a rfl rfl | exact ⟨by omega, by omega⟩) (fun c1 => ?_) (fun c1 => ?_)
  · skip
    refine x_A k59_16 (fun _ => rfl) ?_
    exact x_zret k59_17 rfl ⟨by omega, by omega⟩ ⟨rfl, 0, rfl, by omega⟩
  · skip
    refine x_A k59_4 (fun _ => rfl) ?_
    refine x_A k59_5 (fun _ => rfl) ?_
    refine x_getI k59_6 (f := 4) rfl (q := 1) (n := 5) (kd := 4) ⟨by decide, rfl⟩ (by decide) rfl ?_
    refine x_top (fun z2 e_z2 => ?_)
    have g_z2 : (1 : Int) ≤ s0 1 4 ∧ s0 1 4 ≤ 40 := hG0 1 4
    refine x_ic_ge k59_9 (t := 16) rfl (by first | exact x_rb b_a rfl rfl | exact ⟨by omega, by omega⟩) (by first | exact x_rbe e_z2 g_z2 rfl rfl | exact x_rb g_z2 rfl rfl | exact ⟨by omega, by omega⟩) (fun c3 => ?_) (fun c3 => ?_)
    · skip
      refine x_A k59_16 (fun _ => rfl) ?_
      exact x_zret k59_17 rfl ⟨by omega, by omega⟩ ⟨rfl, 0, rfl, by omega⟩
    · skip
      refine x_A k59_12 (fun _ => rfl) ?_
      refine x_goto k59_13 (t := 17) rfl ?_
      exact x_zret k59_17 rfl ⟨by omega, by omega⟩ ⟨rfl, 1, rfl, by omega⟩
theorem C_X3_has_46 (s0 : xS) (hG0 : GI s0) (a : Int) (b_a : (-2147483648) ≤ a ∧ a ≤ 2147483647) : xe none 29 0 (lv_args 0 [.ref 46, vi a]) [] s0 0 0 (fun s' v => s' = s0 ∧ ∃ z, v = some (vi z) ∧ (((a ≥ 0 ∧ a < s0 46 3) ∧ z = 1) ∨ (¬ (a ≥ 0 ∧ a < s0 46 3) ∧ z = 0))) := by
  have f0 : FL [] s0 s0 := FL.rf
  show xe none 29 0 [(0, .ref 46), (1, vi a)] [] s0 0 0 _
  refine x_A k29_0 (fun _ => rfl) ?_
  refine x_if_lt k29_1 (t := 16) rfl (by first | exact x_rb b_a rfl rfl | exact ⟨by omega, by omega⟩) (fun c1 => ?_) (fun c1 => ?_)
  · skip
    refine x_A k29_16 (fun _ => rfl) ?_
    exact x_zret k29_17 rfl ⟨by omega, by omega⟩ ⟨rfl, 0, rfl, by omega⟩
  · skip
    refine x_A k29_4 (fun _ => rfl) ?_
    refine x_A k29_5 (fun _ => rfl) ?_
    refine x_getI k29_6 (f := 3) rfl (q := 46) (n := 4) (kd := 5) ⟨by decide, rfl⟩ (by decide) rfl ?_
    refine x_top (fun z2 e_z2 => ?_)
    have g_z2 : (0 : Int) ≤ s0 46 3 ∧ s0 46 3 ≤ 40 := hG0 46 3
    refine x_ic_ge k29_9 (t := 16) rfl (by first | exact x_rb b_a rfl rfl | exact ⟨by omega, by omega⟩) (by first | exact x_rbe e_z2 g_z2 rfl rfl | exact x_rb g_z2 rfl rfl | exact ⟨by omega, by omega⟩) (fun c3 => ?_) (fun c3 => ?_)
    · skip
      refine x_A k29_16 (fun _ => rfl) ?_
      exact x_zret k29_17 rfl ⟨by omega, by omega⟩ ⟨rfl, 0, rfl, by omega⟩
    · skip
      refine x_A k29_12 (fun _ => rfl) ?_
      refine x_goto k29_13 (t := 17) rfl ?_
      exact x_zret k29_17 rfl ⟨by omega, by omega⟩ ⟨rfl, 1, rfl, by omega⟩
theorem C_X2_has_50 (s0 : xS) (hG0 : GI s0) (a : Int) (b_a : (-2147483648) ≤ a ∧ a ≤ 2147483647) : xe none 24 0 (lv_args 0 [.ref 50, vi a]) [] s0 0 0 (fun s' v => s' = s0 ∧ ∃ z, v = some (vi z) ∧ (((a ≥ 0 ∧ a < s0 50 6) ∧ z = 1) ∨ (¬ (a ≥ 0 ∧ a < s0 50 6) ∧ z = 0))) := by
  have f0 : FL [] s0 s0 := FL.rf
  show xe none 24 0 [(0, .ref 50), (1, vi a)] [] s0 0 0 _
  refine x_A k24_0 (fun _ => rfl) ?_
  refine x_if_lt k24_1 (t := 16) rfl (by first | exact x_rb b_a rfl rfl | exact ⟨by omega, by omega⟩) (fun c1 => ?_) (fun c1 => ?_)
  · skip
    refine x_A k24_16 (fun _ => rfl) ?_
    exact x_zret k24_17 rfl ⟨by omega, by omega⟩ ⟨rfl, 0, rfl, by omega⟩
  · skip
    refine x_A k24_4 (fun _ => rfl) ?_
    refine x_A k24_5 (fun _ => rfl) ?_
    refine x_getI k24_6 (f := 6) rfl (q := 50) (n := 7) (kd := 6) ⟨by decide, rfl⟩ (by decide) rfl ?_
    refine x_top (fun z2 e_z2 => ?_)
    have g_z2 : (0 : Int) ≤ s0 50 6 ∧ s0 50 6 ≤ 120 := hG0 50 6
    refine x_ic_ge k24_9 (t := 16) rfl (by first | exact x_rb b_a rfl rfl | exact ⟨by omega, by omega⟩) (by first | exact x_rbe e_z2 g_z2 rfl rfl | exact x_rb g_z2 rfl rfl | exact ⟨by omega, by omega⟩) (fun c3 => ?_) (fun c3 => ?_)
    · skip
      refine x_A k24_16 (fun _ => rfl) ?_
      exact x_zret k24_17 rfl ⟨by omega, by omega⟩ ⟨rfl, 0, rfl, by omega⟩
    · skip
      refine x_A k24_12 (fun _ => rfl) ?_
      refine x_goto k24_13 (t := 17) rfl ?_
      exact x_zret k24_17 rfl ⟨by omega, by omega⟩ ⟨rfl, 1, rfl, by omega⟩
theorem C_X0_has_218 (s0 : xS) (hG0 : GI s0) (a : Int) (b_a : (-2147483648) ≤ a ∧ a ≤ 2147483647) : xe none 1 0 (lv_args 0 [.ref 218, vi a]) [] s0 0 0 (fun s' v => s' = s0 ∧ ∃ z, v = some (vi z) ∧ (((a ≥ 0 ∧ a < s0 218 6) ∧ z = 1) ∨ (¬ (a ≥ 0 ∧ a < s0 218 6) ∧ z = 0))) := by
  have f0 : FL [] s0 s0 := FL.rf
  show xe none 1 0 [(0, .ref 218), (1, vi a)] [] s0 0 0 _
  refine x_A k1_0 (fun _ => rfl) ?_
  refine x_if_lt k1_1 (t := 16) rfl (by first | exact x_rb b_a rfl rfl | exact ⟨by omega, by omega⟩) (fun c1 => ?_) (fun c1 => ?_)
  · skip
    refine x_A k1_16 (fun _ => rfl) ?_
    exact x_zret k1_17 rfl ⟨by omega, by omega⟩ ⟨rfl, 0, rfl, by omega⟩
  · skip
    refine x_A k1_4 (fun _ => rfl) ?_
    refine x_A k1_5 (fun _ => rfl) ?_
    refine x_getI k1_6 (f := 6) rfl (q := 218) (n := 7) (kd := 11) ⟨by decide, rfl⟩ (by decide) rfl ?_
    refine x_top (fun z2 e_z2 => ?_)
    have g_z2 : (0 : Int) ≤ s0 218 6 ∧ s0 218 6 ≤ 8 := hG0 218 6
    refine x_ic_ge k1_9 (t := 16) rfl (by first | exact x_rb b_a rfl rfl | exact ⟨by omega, by omega⟩) (by first | exact x_rbe e_z2 g_z2 rfl rfl | exact x_rb g_z2 rfl rfl | exact ⟨by omega, by omega⟩) (fun c3 => ?_) (fun c3 => ?_)
    · skip
      refine x_A k1_16 (fun _ => rfl) ?_
      exact x_zret k1_17 rfl ⟨by omega, by omega⟩ ⟨rfl, 0, rfl, by omega⟩
    · skip
      refine x_A k1_12 (fun _ => rfl) ?_
      refine x_goto k1_13 (t := 17) rfl ?_
      exact x_zret k1_17 rfl ⟨by omega, by omega⟩ ⟨rfl, 1, rfl, by omega⟩
theorem C_X5_has_231 (s0 : xS) (hG0 : GI s0) (a : Int) (b_a : (-2147483648) ≤ a ∧ a ≤ 2147483647) : xe none 43 0 (lv_args 0 [.ref 231, vi a]) [] s0 0 0 (fun s' v => s' = s0 ∧ ∃ z, v = some (vi z) ∧ (((a ≥ 0 ∧ a < s0 231 3) ∧ z = 1) ∨ (¬ (a ≥ 0 ∧ a < s0 231 3) ∧ z = 0))) := by
  have f0 : FL [] s0 s0 := FL.rf
  show xe none 43 0 [(0, .ref 231), (1, vi a)] [] s0 0 0 _
  refine x_A k43_0 (fun _ => rfl) ?_
  refine x_if_lt k43_1 (t := 16) rfl (by first | exact x_rb b_a rfl rfl | exact ⟨by omega, by omega⟩) (fun c1 => ?_) (fun c1 => ?_)
  · skip
    refine x_A k43_16 (fun _ => rfl) ?_
    exact x_zret k43_17 rfl ⟨by omega, by omega⟩ ⟨rfl, 0, rfl, by omega⟩
  · skip
    refine x_A k43_4 (fun _ => rfl) ?_
    refine x_A k43_5 (fun _ => rfl) ?_
    refine x_getI k43_6 (f := 3) rfl (q := 231) (n := 4) (kd := 12) ⟨by decide, rfl⟩ (by decide) rfl ?_
    refine x_top (fun z2 e_z2 => ?_)
    have g_z2 : (0 : Int) ≤ s0 231 3 ∧ s0 231 3 ≤ 4 := hG0 231 3
    refine x_ic_ge k43_9 (t := 16) rfl (by first | exact x_rb b_a rfl rfl | exact ⟨by omega, by omega⟩) (by first | exact x_rbe e_z2 g_z2 rfl rfl | exact x_rb g_z2 rfl rfl | exact ⟨by omega, by omega⟩) (fun c3 => ?_) (fun c3 => ?_)
    · skip
      refine x_A k43_16 (fun _ => rfl) ?_
      exact x_zret k43_17 rfl ⟨by omega, by omega⟩ ⟨rfl, 0, rfl, by omega⟩
    · skip
      refine x_A k43_12 (fun _ => rfl) ?_
      refine x_goto k43_13 (t := 17) rfl ?_
      exact x_zret k43_17 rfl ⟨by omega, by omega⟩ ⟨rfl, 1, rfl, by omega⟩
theorem C_X10_isKnownEdition_0 (s0 : xS) (hG0 : GI s0) (a : Int) (b_a : (-2147483648) ≤ a ∧ a ≤ 2147483647) : xe none 125 0 (lv_args 0 [.ref 0, vi a]) [] s0 0 0 (fun s' v => s' = s0 ∧ ∃ z, v = some (vi z) ∧ (((a ≥ 0 ∧ a ≤ s0 0 10) ∧ z = 1) ∨ (¬ (a ≥ 0 ∧ a ≤ s0 0 10) ∧ z = 0))) := by
  have f0 : FL [] s0 s0 := FL.rf
  show xe none 125 0 [(0, .ref 0), (1, vi a)] [] s0 0 0 _
  refine x_A k125_0 (fun _ => rfl) ?_
  refine x_A k125_1 (fun _ => rfl) ?_
  refine x_A k125_2 (fun _ => rfl) ?_
  refine x_getI k125_3 (f := 10) rfl (q := 0) (n := 12) (kd := 3) ⟨by decide, rfl⟩ (by decide) rfl ?_
  refine x_top (fun z1 e_z1 => ?_)
  have g_z1 : (0 : Int) ≤ s0 0 10 ∧ s0 0 10 ≤ 9 := hG0 0 10
  refine x_callS k125_6 (y := 121) (n := 3) (w0 := 0) (w1 := 3) (as := [vi a, vi 0, vi z1]) (rest := []) (by decide +kernel) rfl rfl rfl rfl (xe_mono (C_X10_isWithin s0 hG0 a (by first | exact x_rb b_a rfl rfl | exact ⟨by omega, by omega⟩) 0 ⟨by decide, by decide⟩ z1 (by first | exact x_rbe e_z1 g_z1 rfl rfl | exact x_rb g_z1 rfl rfl | exact ⟨by omega, by omega⟩)) ?_)
  rintro s3 v ⟨h_s3, z2, rfl, hz_z2⟩
  rw [h_s3]
  rcases hz_z2 with ⟨c_z2, e_z2⟩ | ⟨c_z2, e_z2⟩
  · rw [e_z2]
    show xe none 125 9 [(0, .ref 0), (1, vi a)] [vi 1] s0 0 0 _
    exact x_zret k125_9 rfl ⟨by omega, by omega⟩ ⟨rfl, 1, rfl, by omega⟩
  · rw [e_z2]
    show xe none 125 9 [(0, .ref 0), (1, vi a)] [vi 0] s0 0 0 _
    exact x_zret k125_9 rfl ⟨by omega, by omega⟩ ⟨rfl, 0, rfl, by omega⟩
theorem C_X11_in (s0 : xS) (hG0 : GI s0) (a : Int) (b_a : in64 a) (b : Int) (b_b : in64 b) (c : Int) (b_c : in64 c) : xe none 136 0 (lv_args 0 [vj a, vj b, vj c]) [] s0 0 0 (fun s' v => s' = s0 ∧ ∃ z, v = some (vi z) ∧ (((a ≥ b ∧ a ≤ c) ∧ z = 1) ∨ (¬ (a ≥ b ∧ a ≤ c) ∧ z = 0))) := by
  have f0 : FL [] s0 s0 := FL.rf
  show xe none 136 0 [(0, vj a), (2, vj b), (4, vj c)] [] s0 0 0 _
  refine x_A k136_0 (fun _ => rfl) ?_
  refine x_A k136_1 (fun _ => rfl) ?_
  refine x_lc_lt k136_2 k136_3 (t := 17) rfl b_a b_b (fun c1 => ?_) (fun c1 => ?_)
  · skip
    refine x_A k136_17 (fun _ => rfl) ?_
    exact x_zret k136_18 rfl ⟨by omega, by omega⟩ ⟨rfl, 0, rfl, by omega⟩
  · skip
    refine x_A k136_6 (fun _ => rfl) ?_
    refine x_A k136_7 (fun _ => rfl) ?_
    refine x_lc_gt k136_9 k136_10 (t := 17) rfl b_a b_c (fun c2 => ?_) (fun c2 => ?_)
    · skip
      refine x_A k136_17 (fun _ => rfl) ?_
      exact x_zret k136_18 rfl ⟨by omega, by omega⟩ ⟨rfl, 0, rfl, by omega⟩
    · skip
      refine x_A k136_13 (fun _ => rfl) ?_
      refine x_goto k136_14 (t := 18) rfl ?_
      exact x_zret k136_18 rfl ⟨by omega, by omega⟩ ⟨rfl, 1, rfl, by omega⟩
theorem C_J9_max_7cf53 (s0 : xS) (hG0 : GI s0) (a : Int) (b_a : (-2147483648) ≤ a ∧ a ≤ 2147483647) (b : Int) (b_b : (-2147483648) ≤ b ∧ b ≤ 2147483647) : xe none 220 0 (lv_args 0 [vi a, vi b]) [] s0 0 0 (fun s' v => s' = s0 ∧ ∃ z, v = some (vi z) ∧ a ≤ z ∧ b ≤ z ∧ (z = a ∨ z = b)) := by
  have f0 : FL [] s0 s0 := FL.rf
  show xe none 220 0 [(0, vi a), (1, vi b)] [] s0 0 0 _
  refine x_A k220_0 (fun _ => rfl) ?_
  refine x_A k220_1 (fun _ => rfl) ?_
  refine x_ic_lt k220_2 (t := 9) rfl (by first | exact x_rb b_a rfl rfl | exact ⟨by omega, by omega⟩) (by first | exact x_rb b_b rfl rfl | exact ⟨by omega, by omega⟩) (fun c1 => ?_) (fun c1 => ?_)
  · skip
    refine x_A k220_9 (fun _ => rfl) ?_
    exact x_iret k220_10 rfl ⟨rfl, b, rfl, by omega⟩
  · skip
    refine x_A k220_5 (fun _ => rfl) ?_
    refine x_goto k220_6 (t := 10) rfl ?_
    exact x_iret k220_10 rfl ⟨rfl, a, rfl, by omega⟩
theorem C_J9_min_7cf53 (s0 : xS) (hG0 : GI s0) (a : Int) (b_a : (-2147483648) ≤ a ∧ a ≤ 2147483647) (b : Int) (b_b : (-2147483648) ≤ b ∧ b ≤ 2147483647) : xe none 221 0 (lv_args 0 [vi a, vi b]) [] s0 0 0 (fun s' v => s' = s0 ∧ ∃ z, v = some (vi z) ∧ z ≤ a ∧ z ≤ b ∧ (z = a ∨ z = b)) := by
  have f0 : FL [] s0 s0 := FL.rf
  show xe none 221 0 [(0, vi a), (1, vi b)] [] s0 0 0 _
  refine x_A k221_0 (fun _ => rfl) ?_
  refine x_A k221_1 (fun _ => rfl) ?_
  refine x_ic_gt k221_2 (t := 9) rfl (by first | exact x_rb b_a rfl rfl | exact ⟨by omega, by omega⟩) (by first | exact x_rb b_b rfl rfl | exact ⟨by omega, by omega⟩) (fun c1 => ?_) (fun c1 => ?_)
  · skip
    refine x_A k221_9 (fun _ => rfl) ?_
    exact x_iret k221_10 rfl ⟨rfl, b, rfl, by omega⟩
  · skip
    refine x_A k221_5 (fun _ => rfl) ?_
    refine x_goto k221_6 (t := 10) rfl ?_
    exact x_iret k221_10 rfl ⟨rfl, a, rfl, by omega⟩
theorem C_X10_oneIf (s0 : xS) (hG0 : GI s0) (a : Int) (b_a : 0 ≤ a ∧ a ≤ 1) : xe none 126 0 (lv_args 0 [vi a]) [] s0 0 0 (fun s' v => GI s' ∧ FL [] s0 s' ∧ ∃ z, v = some (vi z) ∧ (0 ≤ z ∧ z ≤ 1)) := by
  have f0 : FL [] s0 s0 := FL.rf
  show xe none 126 0 [(0, vi a)] [] s0 0 0 _
  refine x_A k126_0 (fun _ => rfl) ?_
  refine x_if_eq k126_1 (t := 8) rfl (by first | exact x_rb b_a rfl rfl | exact ⟨by omega, by omega⟩) (fun c1 => ?_) (fun c1 => ?_)
  · skip
    refine x_A k126_8 (fun _ => rfl) ?_
    exact x_iret k126_9 rfl ⟨hG0, f0, 0, rfl, ⟨by decide, by decide⟩⟩
  · skip
    refine x_A k126_4 (fun _ => rfl) ?_
    refine x_goto k126_5 (t := 9) rfl ?_
    exact x_iret k126_9 rfl ⟨hG0, f0, 1, rfl, ⟨by decide, by decide⟩⟩
theorem C_X10_edition_0 (s0 : xS) (hG0 : GI s0)  : xe none 91 0 (lv_args 0 [.ref 0]) [] s0 0 0 (fun s' v => GI s' ∧ FL [11] s0 s' ∧ ∃ z, v = some (vi z) ∧ ((-1003) ≤ z ∧ z ≤ 9) ∧ ((s0 0 10 = 9 ∧ z = -1003 ∧ s' 0 10 = 9) ∨ (s0 0 10 < 9 ∧ z = s0 0 10 + 1 ∧ s' 0 10 = z))) := by
  have f0 : FL [11] s0 s0 := FL.rf
  show xe none 91 0 [(0, .ref 0)] [] s0 0 0 _
  refine x_A k91_0 (fun _ => rfl) ?_
  refine x_getI k91_1 (f := 10) rfl (q := 0) (n := 12) (kd := 3) ⟨by decide, rfl⟩ (by decide) rfl ?_
  refine x_top (fun z1 e_z1 => ?_)
  have g_z1 : (0 : Int) ≤ s0 0 10 ∧ s0 0 10 ≤ 9 := hG0 0 10
  refine x_bipush k91_4 (by decide +kernel) ?_
  refine x_ic_lt k91_6 (t := 13) rfl (by first | exact x_rbe e_z1 g_z1 rfl rfl | exact x_rb g_z1 rfl rfl | exact ⟨by omega, by omega⟩) ⟨by decide, by decide⟩ (fun c2 => ?_) (fun c2 => ?_)
  · skip
    refine x_A k91_13 (fun _ => rfl) ?_
    refine x_A k91_14 (fun _ => rfl) ?_
    refine x_getI k91_15 (f := 10) rfl (q := 0) (n := 12) (kd := 3) ⟨by decide, rfl⟩ (by decide) rfl ?_
    rw [e_z1.symm]
    refine x_A k91_18 (fun _ => rfl) ?_
    refine x_iadd k91_19 ?_
    refine x_top (fun z3 e_z3 => ?_)
    refine x_putI k91_20 (f := 10) rfl (q := 0) (n := 12) (kd := 3) ⟨by decide, rfl⟩ rfl rfl rfl ?_
    refine x_nh (fun s4 e_s4 => ?_)
    have hG_s4 : GI s4 := by rw [e_s4]; exact hG0.up (show 0 ≤ z3 ∧ z3 ≤ 9 from (by first | exact x_rbe e_z3 g_z3 rfl rfl | exact x_rb g_z3 rfl rfl | exact ⟨by omega, by omega⟩))
    have f_s4 : FL [11] s0 s4 := by rw [e_s4]; exact f0.up (show 11 ∈ [11] from by decide +kernel)
    have q5 : s4 0 10 = z3 := by rw [e_s4]; exact x_up_same
    refine x_A k91_23 (fun _ => rfl) ?_
    refine x_getI k91_24 (f := 10) rfl (q := 0) (n := 12) (kd := 3) ⟨by decide, rfl⟩ (by decide) rfl ?_
    rw [q5]
    exact x_iret k91_27 rfl ⟨hG_s4, f_s4, z3, rfl, (by first | exact x_rbe e_z3 g_z3 rfl rfl | exact x_rb g_z3 rfl rfl | exact ⟨by omega, by omega⟩), by omega⟩
  · skip
    refine x_sipush k91_9 (by decide +kernel) ?_
    exact x_iret k91_12 rfl ⟨hG0, f0, (-1003), rfl, ⟨by decide, by decide⟩, by omega⟩
theorem C_X11_edition_256 (s0 : xS) (hG0 : GI s0)  : xe none 145 0 (lv_args 0 [.ref 256]) [] s0 0 0 (fun s' v => GI s' ∧ FL [4097] s0 s' ∧ ∃ z, v = some (vi z) ∧ ((-1003) ≤ z ∧ z ≤ 9) ∧ ((s0 256 0 = 9 ∧ z = -1003 ∧ s' 256 0 = 9) ∨ (s0 256 0 < 9 ∧ z = s0 256 0 + 1 ∧ s' 256 0 = z))) := by
  have f0 : FL [4097] s0 s0 := FL.rf
  show xe none 145 0 [(0, .ref 256)] [] s0 0 0 _
  refine x_A k145_0 (fun _ => rfl) ?_
  refine x_getI k145_1 (f := 0) rfl (q := 256) (n := 62) (kd := 15) ⟨by decide, rfl⟩ (by decide) rfl ?_
  refine x_top (fun z1 e_z1 => ?_)
  have g_z1 : (0 : Int) ≤ s0 256 0 ∧ s0 256 0 ≤ 9 := hG0 256 0
  refine x_bipush k145_4 (by decide +kernel) ?_
  refine x_ic_ne k145_6 (t := 13) rfl (by first | exact x_rbe e_z1 g_z1 rfl rfl | exact x_rb g_z1 rfl rfl | exact ⟨by omega, by omega⟩) ⟨by decide, by decide⟩ (fun c2 => ?_) (fun c2 => ?_)
  · skip
    refine x_A k145_13 (fun _ => rfl) ?_
    refine x_A k145_14 (fun _ => rfl) ?_
    refine x_getI k145_15 (f := 0) rfl (q := 256) (n := 62) (kd := 15) ⟨by decide, rfl⟩ (by decide) rfl ?_
    rw [e_z1.symm]
    refine x_A k145_18 (fun _ => rfl) ?_
    refine x_iadd k145_19 ?_
    refine x_top (fun z3 e_z3 => ?_)
    refine x_putI k145_20 (f := 0) rfl (q := 256) (n := 62) (kd := 15) ⟨by decide, rfl⟩ rfl rfl rfl ?_
    refine x_nh (fun s4 e_s4 => ?_)
    have hG_s4 : GI s4 := by rw [e_s4]; exact hG0.up (show 0 ≤ z3 ∧ z3 ≤ 9 from (by first | exact x_rbe e_z3 g_z3 rfl rfl | exact x_rb g_z3 rfl rfl | exact ⟨by omega, by omega⟩))
    have f_s4 : FL [4097] s0 s4 := by rw [e_s4]; exact f0.up (show 4097 ∈ [4097] from by decide +kernel)
    have q5 : s4 256 0 = z3 := by rw [e_s4]; exact x_up_same
    refine x_A k145_23 (fun _ => rfl) ?_
    refine x_getI k145_24 (f := 0) rfl (q := 256) (n := 62) (kd := 15) ⟨by decide, rfl⟩ (by decide) rfl ?_
    rw [q5]
    exact x_iret k145_27 rfl ⟨hG_s4, f_s4, z3, rfl, (by first | exact x_rbe e_z3 g_z3 rfl rfl | exact x_rb g_z3 rfl rfl | exact ⟨by omega, by omega⟩), by omega⟩
  · skip
    refine x_sipush k145_9 (by decide +kernel) ?_
    exact x_iret k145_12 rfl ⟨hG0, f0, (-1003), rfl, ⟨by decide, by decide⟩, by omega⟩
theorem C_X8_forget_243 (s0 : xS) (hG0 : GI s0)  : xe none 73 0 (lv_args 0 [.ref 243]) [] s0 0 0 (fun s' v => GI s' ∧ FL [3276, 3277] s0 s' ∧ v = none) := by
  have f0 : FL [3276, 3277] s0 s0 := FL.rf
  show xe none 73 0 [(0, .ref 243)] [] s0 0 0 _
  refine x_A k73_0 (fun _ => rfl) ?_
  refine x_A k73_1 (fun _ => rfl) ?_
  refine x_putZ k73_2 (f := 11) rfl (q := 243) (n := 13) (kd := 13) ⟨by decide, rfl⟩ rfl rfl rfl ⟨by omega, by omega⟩ ?_
  refine x_nh (fun s1 e_s1 => ?_)
  have hG_s1 : GI s1 := by rw [e_s1]; exact hG0.up (show 0 ≤ 0 ∧ 0 ≤ 1 from ⟨by decide, by decide⟩)
  have f_s1 : FL [3276, 3277] s0 s1 := by rw [e_s1]; exact f0.up (show 3276 ∈ [3276, 3277] from by decide +kernel)
  have q2 : s1 243 11 = 0 := by rw [e_s1]; exact x_up_same
  refine x_A k73_5 (fun _ => rfl) ?_
  refine x_A k73_6 (fun _ => rfl) ?_
  refine x_putI k73_7 (f := 12) rfl (q := 243) (n := 13) (kd := 13) ⟨by decide, rfl⟩ rfl rfl rfl ?_
  refine x_nh (fun s3 e_s3 => ?_)
  have hG_s3 : GI s3 := by rw [e_s3]; exact hG_s1.up (show (-1) ≤ (-1) ∧ (-1) ≤ 9 from ⟨by decide, by decide⟩)
  have f_s3 : FL [3276, 3277] s0 s3 := by rw [e_s3]; exact f_s1.up (show 3277 ∈ [3276, 3277] from by decide +kernel)
  have q4 : s3 243 11 = 0 := by rw [e_s3, x_up_i (by decide)]; exact q2
  have q5 : s3 243 12 = (-1) := by rw [e_s3]; exact x_up_same
  exact x_vret k73_10 rfl ⟨hG_s3, f_s3, rfl⟩
theorem C_X5_add_231 (s0 : xS) (hG0 : GI s0)  : xe none 44 0 (lv_args 0 [.ref 231]) [] s0 0 0 (fun s' v => GI s' ∧ FL [2884] s0 s' ∧ ∃ z, v = some (vi z) ∧ ((-1004) ≤ z ∧ z ≤ 3)) := by
  have f0 : FL [2884] s0 s0 := FL.rf
  show xe none 44 0 [(0, .ref 231)] [] s0 0 0 _
  refine x_A k44_0 (fun _ => rfl) ?_
  refine x_getI k44_1 (f := 3) rfl (q := 231) (n := 4) (kd := 12) ⟨by decide, rfl⟩ (by decide) rfl ?_
  refine x_top (fun z1 e_z1 => ?_)
  have g_z1 : (0 : Int) ≤ s0 231 3 ∧ s0 231 3 ≤ 4 := hG0 231 3
  refine x_A k44_4 (fun _ => rfl) ?_
  refine x_ic_lt k44_5 (t := 12) rfl (by first | exact x_rbe e_z1 g_z1 rfl rfl | exact x_rb g_z1 rfl rfl | exact ⟨by omega, by omega⟩) ⟨by decide, by decide⟩ (fun c2 => ?_) (fun c2 => ?_)
  · skip
    refine x_A k44_12 (fun _ => rfl) ?_
    refine x_A k44_13 (fun _ => rfl) ?_
    refine x_getI k44_14 (f := 3) rfl (q := 231) (n := 4) (kd := 12) ⟨by decide, rfl⟩ (by decide) rfl ?_
    rw [e_z1.symm]
    refine x_A k44_17 (fun _ => rfl) ?_
    refine x_iadd k44_18 ?_
    refine x_top (fun z3 e_z3 => ?_)
    refine x_putI k44_19 (f := 3) rfl (q := 231) (n := 4) (kd := 12) ⟨by decide, rfl⟩ rfl rfl rfl ?_
    refine x_nh (fun s4 e_s4 => ?_)
    have hG_s4 : GI s4 := by rw [e_s4]; exact hG0.up (show 0 ≤ z3 ∧ z3 ≤ 4 from (by first | exact x_rbe e_z3 g_z3 rfl rfl | exact x_rb g_z3 rfl rfl | exact ⟨by omega, by omega⟩))
    have f_s4 : FL [2884] s0 s4 := by rw [e_s4]; exact f0.up (show 2884 ∈ [2884] from by decide +kernel)
    have q5 : s4 231 3 = z3 := by rw [e_s4]; exact x_up_same
    refine x_A k44_22 (fun _ => rfl) ?_
    refine x_getI k44_23 (f := 3) rfl (q := 231) (n := 4) (kd := 12) ⟨by decide, rfl⟩ (by decide) rfl ?_
    rw [q5]
    refine x_A k44_26 (fun _ => rfl) ?_
    refine x_isub k44_27 ?_
    refine x_top (fun z6 e_z6 => ?_)
    exact x_iret k44_28 rfl ⟨hG_s4, f_s4, z6, rfl, (by first | exact x_rbe e_z6 g_z6 rfl rfl | exact x_rb g_z6 rfl rfl | exact ⟨by omega, by omega⟩)⟩
  · skip
    refine x_sipush k44_8 (by decide +kernel) ?_
    exact x_iret k44_11 rfl ⟨hG0, f0, (-1004), rfl, ⟨by decide, by decide⟩⟩
theorem C_X10_story_0 (s0 : xS) (hG0 : GI s0)  : xe none 117 0 (lv_args 0 [.ref 0]) [] s0 0 0 (fun s' v => GI s' ∧ FL [2884] s0 s' ∧ ∃ z, v = some (vi z) ∧ ((-1004) ≤ z ∧ z ≤ 3)) := by
  have f0 : FL [2884] s0 s0 := FL.rf
  show xe none 117 0 [(0, .ref 0)] [] s0 0 0 _
  refine x_A k117_0 (fun _ => rfl) ?_
  refine x_getR k117_1 (f := 8) rfl (q := 0) (n := 12) (kd := 3) ⟨by decide, rfl⟩ (q2 := 231) (by decide) rfl ?_
  refine x_callV k117_4 (y := 44) (n := 0) (w0 := 0) (w1 := 0) (as := []) (rest := []) (by decide +kernel) (q := 231) (nq := 4) (kq := 12) ⟨by decide, rfl⟩ rfl rfl rfl rfl (xe_mono (C_X5_add_231 s0 hG0) ?_)
  rintro s2 v ⟨hG_s2, t_s2, z1, rfl, g_z1⟩
  have f_s2 : FL [2884] s0 s2 := f0.tr t_s2 (by decide +kernel)
  show xe none 117 7 [(0, .ref 0)] [vi z1] s2 0 0 _
  exact x_iret k117_7 rfl ⟨hG_s2, f_s2, z1, rfl, (by first | exact x_rbe e_z1 g_z1 rfl rfl | exact x_rb g_z1 rfl rfl | exact ⟨by omega, by omega⟩)⟩
theorem C_X11_story_256 (s0 : xS) (hG0 : GI s0)  : xe none 215 0 (lv_args 0 [.ref 256]) [] s0 0 0 (fun s' v => GI s' ∧ FL [4155, 6400] s0 s' ∧ ∃ z, v = some (vi z) ∧ ((-1004) ≤ z ∧ z ≤ 3)) := by
  have f0 : FL [4155, 6400] s0 s0 := FL.rf
  show xe none 215 0 [(0, .ref 256)] [] s0 0 0 _
  refine x_A k215_0 (fun _ => rfl) ?_
  refine x_getI k215_1 (f := 58) rfl (q := 256) (n := 62) (kd := 15) ⟨by decide, rfl⟩ (by decide) rfl ?_
  refine x_top (fun z1 e_z1 => ?_)
  have g_z1 : (0 : Int) ≤ s0 256 58 ∧ s0 256 58 ≤ 4 := hG0 256 58
  refine x_A k215_4 (fun _ => rfl) ?_
  refine x_ic_ne k215_5 (t := 12) rfl (by first | exact x_rbe e_z1 g_z1 rfl rfl | exact x_rb g_z1 rfl rfl | exact ⟨by omega, by omega⟩) ⟨by decide, by decide⟩ (fun c2 => ?_) (fun c2 => ?_)
  · skip
    refine x_A k215_12 (fun _ => rfl) ?_
    refine x_getR k215_13 (f := 59) rfl (q := 256) (n := 62) (kd := 15) ⟨by decide, rfl⟩ (q2 := 292) (by decide) rfl ?_
    refine x_A k215_16 (fun _ => rfl) ?_
    refine x_getI k215_17 (f := 58) rfl (q := 256) (n := 62) (kd := 15) ⟨by decide, rfl⟩ (by decide) rfl ?_
    rw [e_z1.symm]
    refine x_A k215_20 (fun _ => rfl) ?_
    refine x_iast k215_21 (q := 292) (n := 4) ⟨by decide, rfl⟩ (by decide) (by first | exact x_rbel e_z1 g_z1 rfl rfl | exact x_rbl g_z1 rfl rfl | exact ⟨by omega, by omega⟩) ?_
    refine x_nh (fun s3 e_s3 => ?_)
    have hG_s3 : GI s3 := by rw [e_s3]; exact hG0.up (show 0 ≤ 0 ∧ 0 ≤ 5 from ⟨by decide, by decide⟩)
    have f_s3 : FL [4155, 6400] s0 s3 := by rw [e_s3]; exact f0.up (show 6400 ∈ [4155, 6400] from by decide +kernel)
    have q4 : s3 256 58 = z1 := by rw [e_s3, x_up_q (by decide)]; exact e_z1.symm
    have q5 : s3 292 z1.toNat = 0 := by rw [e_s3]; exact x_up_same
    refine x_A k215_22 (fun _ => rfl) ?_
    refine x_A k215_23 (fun _ => rfl) ?_
    refine x_getI k215_24 (f := 58) rfl (q := 256) (n := 62) (kd := 15) ⟨by decide, rfl⟩ (by decide) rfl ?_
    rw [q4]
    refine x_A k215_27 (fun _ => rfl) ?_
    refine x_iadd k215_28 ?_
    refine x_top (fun z6 e_z6 => ?_)
    refine x_putI k215_29 (f := 58) rfl (q := 256) (n := 62) (kd := 15) ⟨by decide, rfl⟩ rfl rfl rfl ?_
    refine x_nh (fun s7 e_s7 => ?_)
    have hG_s7 : GI s7 := by rw [e_s7]; exact hG_s3.up (show 0 ≤ z6 ∧ z6 ≤ 4 from (by first | exact x_rbe e_z6 g_z6 rfl rfl | exact x_rb g_z6 rfl rfl | exact ⟨by omega, by omega⟩))
    have f_s7 : FL [4155, 6400] s0 s7 := by rw [e_s7]; exact f_s3.up (show 4155 ∈ [4155, 6400] from by decide +kernel)
    have q8 : s7 256 58 = z6 := by rw [e_s7]; exact x_up_same
    have q9 : s7 292 z1.toNat = 0 := by rw [e_s7, x_up_q (by first | decide | omega)]; exact q5
    refine x_A k215_32 (fun _ => rfl) ?_
    refine x_getI k215_33 (f := 58) rfl (q := 256) (n := 62) (kd := 15) ⟨by decide, rfl⟩ (by decide) rfl ?_
    rw [q8]
    refine x_A k215_36 (fun _ => rfl) ?_
    refine x_isub k215_37 ?_
    refine x_top (fun z10 e_z10 => ?_)
    exact x_iret k215_38 rfl ⟨hG_s7, f_s7, z10, rfl, (by first | exact x_rbe e_z10 g_z10 rfl rfl | exact x_rb g_z10 rfl rfl | exact ⟨by omega, by omega⟩)⟩
  · skip
    refine x_sipush k215_8 (by decide +kernel) ?_
    exact x_iret k215_11 rfl ⟨hG0, f0, (-1004), rfl, ⟨by decide, by decide⟩⟩
theorem C_X11_isMark_256 (s0 : xS) (hG0 : GI s0) (a : Int) (b_a : (-2147483648) ≤ a ∧ a ≤ 2147483647) : xe none 137 0 (lv_args 0 [.ref 256, vi a]) [] s0 0 0 (fun s' v => s' = s0 ∧ ∃ z, v = some (vi z) ∧ (((a ≥ 0 ∧ a < s0 256 1) ∧ z = 1) ∨ (¬ (a ≥ 0 ∧ a < s0 256 1) ∧ z = 0))) := by
  have f0 : FL [] s0 s0 := FL.rf
  show xe none 137 0 [(0, .ref 256), (1, vi a)] [] s0 0 0 _
  refine x_A k137_0 (fun _ => rfl) ?_
  refine x_i2l k137_1 (by first | exact x_rb b_a rfl rfl | exact ⟨by omega, by omega⟩) ?_
  refine x_lconst k137_2 (z := 0) (by decide +kernel) ?_
  refine x_A k137_3 (fun _ => rfl) ?_
  refine x_getI k137_4 (f := 1) rfl (q := 256) (n := 62) (kd := 15) ⟨by decide, rfl⟩ (by decide) rfl ?_
  refine x_top (fun z1 e_z1 => ?_)
  have g_z1 : (1 : Int) ≤ s0 256 1 ∧ s0 256 1 ≤ 40 := hG0 256 1
  refine x_A k137_7 (fun _ => rfl) ?_
  refine x_isub k137_8 ?_
  refine x_top (fun z2 e_z2 => ?_)
  refine x_i2l k137_9 (by first | exact x_rbe e_z2 g_z2 rfl rfl | exact x_rb g_z2 rfl rfl | exact ⟨by omega, by omega⟩) ?_
  refine x_callS k137_10 (y := 136) (n := 3) (w0 := 0) (w1 := 6) (as := [vj a, vj 0, vj z2]) (rest := []) (by decide +kernel) rfl rfl rfl rfl (xe_mono (C_X11_in s0 hG0 a ⟨by omega, by omega⟩ 0 ⟨by omega, by omega⟩ z2 ⟨by omega, by omega⟩) ?_)
  rintro s4 v ⟨h_s4, z3, rfl, hz_z3⟩
  rw [h_s4]
  rcases hz_z3 with ⟨c_z3, e_z3⟩ | ⟨c_z3, e_z3⟩
  · rw [e_z3]
    show xe none 137 13 [(0, .ref 256), (1, vi a)] [vi 1] s0 0 0 _
    exact x_zret k137_13 rfl ⟨by omega, by omega⟩ ⟨rfl, 1, rfl, by omega⟩
  · rw [e_z3]
    show xe none 137 13 [(0, .ref 256), (1, vi a)] [vi 0] s0 0 0 _
    exact x_zret k137_13 rfl ⟨by omega, by omega⟩ ⟨rfl, 0, rfl, by omega⟩
theorem C_X11_isEdition_256 (s0 : xS) (hG0 : GI s0) (a : Int) (b_a : (-2147483648) ≤ a ∧ a ≤ 2147483647) : xe none 138 0 (lv_args 0 [.ref 256, vi a]) [] s0 0 0 (fun s' v => s' = s0 ∧ ∃ z, v = some (vi z) ∧ (((a ≥ 0 ∧ a ≤ s0 256 0) ∧ z = 1) ∨ (¬ (a ≥ 0 ∧ a ≤ s0 256 0) ∧ z = 0))) := by
  have f0 : FL [] s0 s0 := FL.rf
  show xe none 138 0 [(0, .ref 256), (1, vi a)] [] s0 0 0 _
  refine x_A k138_0 (fun _ => rfl) ?_
  refine x_i2l k138_1 (by first | exact x_rb b_a rfl rfl | exact ⟨by omega, by omega⟩) ?_
  refine x_lconst k138_2 (z := 0) (by decide +kernel) ?_
  refine x_A k138_3 (fun _ => rfl) ?_
  refine x_getI k138_4 (f := 0) rfl (q := 256) (n := 62) (kd := 15) ⟨by decide, rfl⟩ (by decide) rfl ?_
  refine x_top (fun z1 e_z1 => ?_)
  have g_z1 : (0 : Int) ≤ s0 256 0 ∧ s0 256 0 ≤ 9 := hG0 256 0
  refine x_i2l k138_7 (by first | exact x_rbe e_z1 g_z1 rfl rfl | exact x_rb g_z1 rfl rfl | exact ⟨by omega, by omega⟩) ?_
  refine x_callS k138_8 (y := 136) (n := 3) (w0 := 0) (w1 := 6) (as := [vj a, vj 0, vj z1]) (rest := []) (by decide +kernel) rfl rfl rfl rfl (xe_mono (C_X11_in s0 hG0 a ⟨by omega, by omega⟩ 0 ⟨by omega, by omega⟩ z1 ⟨by omega, by omega⟩) ?_)
  rintro s3 v ⟨h_s3, z2, rfl, hz_z2⟩
  rw [h_s3]
  rcases hz_z2 with ⟨c_z2, e_z2⟩ | ⟨c_z2, e_z2⟩
  · rw [e_z2]
    show xe none 138 11 [(0, .ref 256), (1, vi a)] [vi 1] s0 0 0 _
    exact x_zret k138_11 rfl ⟨by omega, by omega⟩ ⟨rfl, 1, rfl, by omega⟩
  · rw [e_z2]
    show xe none 138 11 [(0, .ref 256), (1, vi a)] [vi 0] s0 0 0 _
    exact x_zret k138_11 rfl ⟨by omega, by omega⟩ ⟨rfl, 0, rfl, by omega⟩
theorem C_X11_isPicture_256 (s0 : xS) (hG0 : GI s0) (a : Int) (b_a : (-2147483648) ≤ a ∧ a ≤ 2147483647) : xe none 151 0 (lv_args 0 [.ref 256, vi a]) [] s0 0 0 (fun s' v => s' = s0 ∧ ∃ z, v = some (vi z) ∧ (((a ≥ 0 ∧ a < s0 256 6) ∧ z = 1) ∨ (¬ (a ≥ 0 ∧ a < s0 256 6) ∧ z = 0))) := by
  have f0 : FL [] s0 s0 := FL.rf
  show xe none 151 0 [(0, .ref 256), (1, vi a)] [] s0 0 0 _
  refine x_A k151_0 (fun _ => rfl) ?_
  refine x_i2l k151_1 (by first | exact x_rb b_a rfl rfl | exact ⟨by omega, by omega⟩) ?_
  refine x_lconst k151_2 (z := 0) (by decide +kernel) ?_
  refine x_A k151_3 (fun _ => rfl) ?_
  refine x_getI k151_4 (f := 6) rfl (q := 256) (n := 62) (kd := 15) ⟨by decide, rfl⟩ (by decide) rfl ?_
  refine x_top (fun z1 e_z1 => ?_)
  have g_z1 : (0 : Int) ≤ s0 256 6 ∧ s0 256 6 ≤ 40 := hG0 256 6
  refine x_A k151_7 (fun _ => rfl) ?_
  refine x_isub k151_8 ?_
  refine x_top (fun z2 e_z2 => ?_)
  refine x_i2l k151_9 (by first | exact x_rbe e_z2 g_z2 rfl rfl | exact x_rb g_z2 rfl rfl | exact ⟨by omega, by omega⟩) ?_
  refine x_callS k151_10 (y := 136) (n := 3) (w0 := 0) (w1 := 6) (as := [vj a, vj 0, vj z2]) (rest := []) (by decide +kernel) rfl rfl rfl rfl (xe_mono (C_X11_in s0 hG0 a ⟨by omega, by omega⟩ 0 ⟨by omega, by omega⟩ z2 ⟨by omega, by omega⟩) ?_)
  rintro s4 v ⟨h_s4, z3, rfl, hz_z3⟩
  rw [h_s4]
  rcases hz_z3 with ⟨c_z3, e_z3⟩ | ⟨c_z3, e_z3⟩
  · rw [e_z3]
    show xe none 151 13 [(0, .ref 256), (1, vi a)] [vi 1] s0 0 0 _
    exact x_zret k151_13 rfl ⟨by omega, by omega⟩ ⟨rfl, 1, rfl, by omega⟩
  · rw [e_z3]
    show xe none 151 13 [(0, .ref 256), (1, vi a)] [vi 0] s0 0 0 _
    exact x_zret k151_13 rfl ⟨by omega, by omega⟩ ⟨rfl, 0, rfl, by omega⟩
theorem C_X11_isGiving_256 (s0 : xS) (hG0 : GI s0) (a : Int) (b_a : (-2147483648) ≤ a ∧ a ≤ 2147483647) : xe none 152 0 (lv_args 0 [.ref 256, vi a]) [] s0 0 0 (fun s' v => s' = s0 ∧ ∃ z, v = some (vi z) ∧ (((a ≥ 0 ∧ a < s0 256 10) ∧ z = 1) ∨ (¬ (a ≥ 0 ∧ a < s0 256 10) ∧ z = 0))) := by
  have f0 : FL [] s0 s0 := FL.rf
  show xe none 152 0 [(0, .ref 256), (1, vi a)] [] s0 0 0 _
  refine x_A k152_0 (fun _ => rfl) ?_
  refine x_i2l k152_1 (by first | exact x_rb b_a rfl rfl | exact ⟨by omega, by omega⟩) ?_
  refine x_lconst k152_2 (z := 0) (by decide +kernel) ?_
  refine x_A k152_3 (fun _ => rfl) ?_
  refine x_getI k152_4 (f := 10) rfl (q := 256) (n := 62) (kd := 15) ⟨by decide, rfl⟩ (by decide) rfl ?_
  refine x_top (fun z1 e_z1 => ?_)
  have g_z1 : (0 : Int) ≤ s0 256 10 ∧ s0 256 10 ≤ 120 := hG0 256 10
  refine x_A k152_7 (fun _ => rfl) ?_
  refine x_isub k152_8 ?_
  refine x_top (fun z2 e_z2 => ?_)
  refine x_i2l k152_9 (by first | exact x_rbe e_z2 g_z2 rfl rfl | exact x_rb g_z2 rfl rfl | exact ⟨by omega, by omega⟩) ?_
  refine x_callS k152_10 (y := 136) (n := 3) (w0 := 0) (w1 := 6) (as := [vj a, vj 0, vj z2]) (rest := []) (by decide +kernel) rfl rfl rfl rfl (xe_mono (C_X11_in s0 hG0 a ⟨by omega, by omega⟩ 0 ⟨by omega, by omega⟩ z2 ⟨by omega, by omega⟩) ?_)
  rintro s4 v ⟨h_s4, z3, rfl, hz_z3⟩
  rw [h_s4]
  rcases hz_z3 with ⟨c_z3, e_z3⟩ | ⟨c_z3, e_z3⟩
  · rw [e_z3]
    show xe none 152 13 [(0, .ref 256), (1, vi a)] [vi 1] s0 0 0 _
    exact x_zret k152_13 rfl ⟨by omega, by omega⟩ ⟨rfl, 1, rfl, by omega⟩
  · rw [e_z3]
    show xe none 152 13 [(0, .ref 256), (1, vi a)] [vi 0] s0 0 0 _
    exact x_zret k152_13 rfl ⟨by omega, by omega⟩ ⟨rfl, 0, rfl, by omega⟩
theorem C_X11_isHand (s0 : xS) (hG0 : GI s0) (a : Int) (b_a : (-2147483648) ≤ a ∧ a ≤ 2147483647) : xe none 153 0 (lv_args 0 [vi a]) [] s0 0 0 (fun s' v => s' = s0 ∧ ∃ z, v = some (vi z) ∧ (((a ≥ 0 ∧ a ≤ 7) ∧ z = 1) ∨ (¬ (a ≥ 0 ∧ a ≤ 7) ∧ z = 0))) := by
  have f0 : FL [] s0 s0 := FL.rf
  show xe none 153 0 [(0, vi a)] [] s0 0 0 _
  refine x_A k153_0 (fun _ => rfl) ?_
  refine x_i2l k153_1 (by first | exact x_rb b_a rfl rfl | exact ⟨by omega, by omega⟩) ?_
  refine x_lconst k153_2 (z := 0) (by decide +kernel) ?_
  refine x_ldc2 k153_3 (z := 7) rfl (by decide +kernel) ?_
  refine x_callS k153_6 (y := 136) (n := 3) (w0 := 0) (w1 := 6) (as := [vj a, vj 0, vj 7]) (rest := []) (by decide +kernel) rfl rfl rfl rfl (xe_mono (C_X11_in s0 hG0 a ⟨by omega, by omega⟩ 0 ⟨by omega, by omega⟩ 7 ⟨by omega, by omega⟩) ?_)
  rintro s2 v ⟨h_s2, z1, rfl, hz_z1⟩
  rw [h_s2]
  rcases hz_z1 with ⟨c_z1, e_z1⟩ | ⟨c_z1, e_z1⟩
  · rw [e_z1]
    show xe none 153 9 [(0, vi a)] [vi 1] s0 0 0 _
    exact x_zret k153_9 rfl ⟨by omega, by omega⟩ ⟨rfl, 1, rfl, by omega⟩
  · rw [e_z1]
    show xe none 153 9 [(0, vi a)] [vi 0] s0 0 0 _
    exact x_zret k153_9 rfl ⟨by omega, by omega⟩ ⟨rfl, 0, rfl, by omega⟩
theorem C_X11_isWord (s0 : xS) (hG0 : GI s0) (a : Int) (b_a : (-2147483648) ≤ a ∧ a ≤ 2147483647) (b : Int) (b_b : (-2147483648) ≤ b ∧ b ≤ 2147483647) : xe none 190 0 (lv_args 0 [vi a, vi b]) [] s0 0 0 (fun s' v => s' = s0 ∧ ∃ z, v = some (vi z) ∧ (((a ≥ 0 ∧ a ≤ 3 ∧ b ≥ 0 ∧ b ≤ 99) ∧ z = 1) ∨ (¬ (a ≥ 0 ∧ a ≤ 3 ∧ b ≥ 0 ∧ b ≤ 99) ∧ z = 0))) := by
  have f0 : FL [] s0 s0 := FL.rf
  show xe none 190 0 [(0, vi a), (1, vi b)] [] s0 0 0 _
  refine x_A k190_0 (fun _ => rfl) ?_
  refine x_i2l k190_1 (by first | exact x_rb b_a rfl rfl | exact ⟨by omega, by omega⟩) ?_
  refine x_lconst k190_2 (z := 0) (by decide +kernel) ?_
  refine x_ldc2 k190_3 (z := 3) rfl (by decide +kernel) ?_
  refine x_callS k190_6 (y := 136) (n := 3) (w0 := 0) (w1 := 6) (as := [vj a, vj 0, vj 3]) (rest := []) (by decide +kernel) rfl rfl rfl rfl (xe_mono (C_X11_in s0 hG0 a ⟨by omega, by omega⟩ 0 ⟨by omega, by omega⟩ 3 ⟨by omega, by omega⟩) ?_)
  rintro s2 v ⟨h_s2, z1, rfl, hz_z1⟩
  rw [h_s2]
  rcases hz_z1 with ⟨c_z1, e_z1⟩ | ⟨c_z1, e_z1⟩
  · rw [e_z1]
    show xe none 190 9 [(0, vi a), (1, vi b)] [vi 1] s0 0 0 _
    refine x_if_eq k190_9 (t := 28) rfl ⟨by decide, by decide⟩ (fun c3 => by exfalso; omega) (fun c3 => ?_)
    refine x_A k190_12 (fun _ => rfl) ?_
    refine x_i2l k190_13 (by first | exact x_rb b_b rfl rfl | exact ⟨by omega, by omega⟩) ?_
    refine x_lconst k190_14 (z := 0) (by decide +kernel) ?_
    refine x_ldc2 k190_15 (z := 99) rfl (by decide +kernel) ?_
    refine x_callS k190_18 (y := 136) (n := 3) (w0 := 0) (w1 := 6) (as := [vj b, vj 0, vj 99]) (rest := []) (by decide +kernel) rfl rfl rfl rfl (xe_mono (C_X11_in s0 hG0 b ⟨by omega, by omega⟩ 0 ⟨by omega, by omega⟩ 99 ⟨by omega, by omega⟩) ?_)
    rintro s5 v ⟨h_s5, z4, rfl, hz_z4⟩
    rw [h_s5]
    rcases hz_z4 with ⟨c_z4, e_z4⟩ | ⟨c_z4, e_z4⟩
    · rw [e_z4]
      show xe none 190 21 [(0, vi a), (1, vi b)] [vi 1] s0 0 0 _
      refine x_if_eq k190_21 (t := 28) rfl ⟨by decide, by decide⟩ (fun c6 => by exfalso; omega) (fun c6 => ?_)
      refine x_A k190_24 (fun _ => rfl) ?_
      refine x_goto k190_25 (t := 29) rfl ?_
      exact x_zret k190_29 rfl ⟨by omega, by omega⟩ ⟨rfl, 1, rfl, by omega⟩
    · rw [e_z4]
      show xe none 190 21 [(0, vi a), (1, vi b)] [vi 0] s0 0 0 _
      refine x_if_eq k190_21 (t := 28) rfl ⟨by decide, by decide⟩ (fun c7 => ?_) (fun c7 => by exfalso; omega)
      refine x_A k190_28 (fun _ => rfl) ?_
      exact x_zret k190_29 rfl ⟨by omega, by omega⟩ ⟨rfl, 0, rfl, by omega⟩
  · rw [e_z1]
    show xe none 190 9 [(0, vi a), (1, vi b)] [vi 0] s0 0 0 _
    refine x_if_eq k190_9 (t := 28) rfl ⟨by decide, by decide⟩ (fun c8 => ?_) (fun c8 => by exfalso; omega)
    refine x_A k190_28 (fun _ => rfl) ?_
    exact x_zret k190_29 rfl ⟨by omega, by omega⟩ ⟨rfl, 0, rfl, by omega⟩
theorem C_X7_isEnded_1 (s0 : xS) (hG0 : GI s0) (a : Int) (b_a : (-2147483648) ≤ a ∧ a ≤ 2147483647) (b : Int) (b_b : (-2147483648) ≤ b ∧ b ≤ 2147483647) : xe none 63 0 (lv_args 0 [.ref 1, vi a, vi b]) [] s0 0 0 (fun s' v => s' = s0 ∧ ∃ z, v = some (vi z) ∧ (((a ≥ 0 ∧ a < s0 1 4) ∧ z = 1) ∨ z = 0)) := by
  have f0 : FL [] s0 s0 := FL.rf
  show xe none 63 0 [(0, .ref 1), (1, vi a), (2, vi b)] [] s0 0 0 _
  refine x_A k63_0 (fun _ => rfl) ?_
  refine x_A k63_1 (fun _ => rfl) ?_
  obtain ⟨z1, e_z1⟩ : ∃ z, z = s0 1 4 := ⟨_, rfl⟩
  have g_z1 : (1 : Int) ≤ s0 1 4 ∧ s0 1 4 ≤ 40 := hG0 1 4
  refine x_callV k63_2 (y := 59) (n := 1) (w0 := 0) (w1 := 1) (as := [vi a]) (rest := []) (by decide +kernel) (q := 1) (nq := 5) (kq := 4) ⟨by decide, rfl⟩ rfl rfl rfl rfl (xe_mono (C_X7_has_1 s0 hG0 a (by first | exact x_rb b_a rfl rfl | exact ⟨by omega, by omega⟩)) ?_)
  rintro s3 v ⟨h_s3, z2, rfl, hz_z2⟩
  rw [h_s3]
  rcases hz_z2 with ⟨c_z2, e_z2⟩ | ⟨c_z2, e_z2⟩
  · rw [e_z2]
    show xe none 63 5 [(0, .ref 1), (1, vi a), (2, vi b)] [vi 1] s0 0 0 _
    refine x_if_eq k63_5 (t := 32) rfl ⟨by decide, by decide⟩ (fun c4 => by exfalso; omega) (fun c4 => ?_)
    refine x_A k63_8 (fun _ => rfl) ?_
    refine x_getR k63_9 (f := 1) rfl (q := 1) (n := 5) (kd := 4) ⟨by decide, rfl⟩ (q2 := 3) (by decide) rfl ?_
    refine x_A k63_12 (fun _ => rfl) ?_
    refine x_iald k63_13 (q := 3) (n := 40) ⟨by decide, rfl⟩ (by decide) (by first | exact x_rbl b_a rfl rfl | exact ⟨by omega, by omega⟩) ?_
    refine x_top (fun z5 e_z5 => ?_)
    have g_z5 : (-1) ≤ s0 3 a.toNat ∧ s0 3 a.toNat ≤ 9 := hG0 3 a.toNat
    refine x_A k63_14 (fun _ => rfl) ?_
    refine x_ic_eq k63_15 (t := 32) rfl (by first | exact x_rbe e_z5 g_z5 rfl rfl | exact x_rb g_z5 rfl rfl | exact ⟨by omega, by omega⟩) ⟨by decide, by decide⟩ (fun c6 => ?_) (fun c6 => ?_)
    · skip
      refine x_A k63_32 (fun _ => rfl) ?_
      exact x_zret k63_33 rfl ⟨by omega, by omega⟩ ⟨rfl, 0, rfl, by omega⟩
    · skip
      refine x_A k63_18 (fun _ => rfl) ?_
      refine x_getR k63_19 (f := 1) rfl (q := 1) (n := 5) (kd := 4) ⟨by decide, rfl⟩ (q2 := 3) (by decide) rfl ?_
      refine x_A k63_22 (fun _ => rfl) ?_
      refine x_iald k63_23 (q := 3) (n := 40) ⟨by decide, rfl⟩ (by decide) (by first | exact x_rbl b_a rfl rfl | exact ⟨by omega, by omega⟩) ?_
      rw [e_z5.symm]
      refine x_A k63_24 (fun _ => rfl) ?_
      refine x_ic_gt k63_25 (t := 32) rfl (by first | exact x_rbe e_z5 g_z5 rfl rfl | exact x_rb g_z5 rfl rfl | exact ⟨by omega, by omega⟩) (by first | exact x_rb b_b rfl rfl | exact ⟨by omega, by omega⟩) (fun c7 => ?_) (fun c7 => ?_)
      · skip
        refine x_A k63_32 (fun _ => rfl) ?_
        exact x_zret k63_33 rfl ⟨by omega, by omega⟩ ⟨rfl, 0, rfl, by omega⟩
      · skip
        refine x_A k63_28 (fun _ => rfl) ?_
        refine x_goto k63_29 (t := 33) rfl ?_
        exact x_zret k63_33 rfl ⟨by omega, by omega⟩ ⟨rfl, 1, rfl, by omega⟩
  · rw [e_z2]
    show xe none 63 5 [(0, .ref 1), (1, vi a), (2, vi b)] [vi 0] s0 0 0 _
    refine x_if_eq k63_5 (t := 32) rfl ⟨by decide, by decide⟩ (fun c8 => ?_) (fun c8 => by exfalso; omega)
    refine x_A k63_32 (fun _ => rfl) ?_
    exact x_zret k63_33 rfl ⟨by omega, by omega⟩ ⟨rfl, 0, rfl, by omega⟩
theorem C_X7_isThere_1 (s0 : xS) (hG0 : GI s0) (a : Int) (b_a : (-2147483648) ≤ a ∧ a ≤ 2147483647) (b : Int) (b_b : (-2147483648) ≤ b ∧ b ≤ 2147483647) : xe none 64 0 (lv_args 0 [.ref 1, vi a, vi b]) [] s0 0 0 (fun s' v => s' = s0 ∧ ∃ z, v = some (vi z) ∧ (((a ≥ 0 ∧ a < s0 1 4) ∧ z = 1) ∨ z = 0)) := by
  have f0 : FL [] s0 s0 := FL.rf
  show xe none 64 0 [(0, .ref 1), (1, vi a), (2, vi b)] [] s0 0 0 _
  refine x_A k64_0 (fun _ => rfl) ?_
  refine x_A k64_1 (fun _ => rfl) ?_
  obtain ⟨z1, e_z1⟩ : ∃ z, z = s0 1 4 := ⟨_, rfl⟩
  have g_z1 : (1 : Int) ≤ s0 1 4 ∧ s0 1 4 ≤ 40 := hG0 1 4
  refine x_callV k64_2 (y := 59) (n := 1) (w0 := 0) (w1 := 1) (as := [vi a]) (rest := []) (by decide +kernel) (q := 1) (nq := 5) (kq := 4) ⟨by decide, rfl⟩ rfl rfl rfl rfl (xe_mono (C_X7_has_1 s0 hG0 a (by first | exact x_rb b_a rfl rfl | exact ⟨by omega, by omega⟩)) ?_)
  rintro s3 v ⟨h_s3, z2, rfl, hz_z2⟩
  rw [h_s3]
  rcases hz_z2 with ⟨c_z2, e_z2⟩ | ⟨c_z2, e_z2⟩
  · rw [e_z2]
    show xe none 64 5 [(0, .ref 1), (1, vi a), (2, vi b)] [vi 1] s0 0 0 _
    refine x_if_eq k64_5 (t := 31) rfl ⟨by decide, by decide⟩ (fun c4 => by exfalso; omega) (fun c4 => ?_)
    refine x_A k64_8 (fun _ => rfl) ?_
    refine x_getR k64_9 (f := 0) rfl (q := 1) (n := 5) (kd := 4) ⟨by decide, rfl⟩ (q2 := 2) (by decide) rfl ?_
    refine x_A k64_12 (fun _ => rfl) ?_
    refine x_iald k64_13 (q := 2) (n := 40) ⟨by decide, rfl⟩ (by decide) (by first | exact x_rbl b_a rfl rfl | exact ⟨by omega, by omega⟩) ?_
    refine x_top (fun z5 e_z5 => ?_)
    have g_z5 : (0 : Int) ≤ s0 2 a.toNat ∧ s0 2 a.toNat ≤ 9 := hG0 2 a.toNat
    refine x_A k64_14 (fun _ => rfl) ?_
    refine x_ic_gt k64_15 (t := 31) rfl (by first | exact x_rbe e_z5 g_z5 rfl rfl | exact x_rb g_z5 rfl rfl | exact ⟨by omega, by omega⟩) (by first | exact x_rb b_b rfl rfl | exact ⟨by omega, by omega⟩) (fun c6 => ?_) (fun c6 => ?_)
    · skip
      refine x_A k64_31 (fun _ => rfl) ?_
      exact x_zret k64_32 rfl ⟨by omega, by omega⟩ ⟨rfl, 0, rfl, by omega⟩
    · skip
      refine x_A k64_18 (fun _ => rfl) ?_
      refine x_A k64_19 (fun _ => rfl) ?_
      refine x_A k64_20 (fun _ => rfl) ?_
      refine x_callV k64_21 (y := 63) (n := 2) (w0 := 0) (w1 := 2) (as := [vi a, vi b]) (rest := []) (by decide +kernel) (q := 1) (nq := 5) (kq := 4) ⟨by decide, rfl⟩ rfl rfl rfl rfl (xe_mono (C_X7_isEnded_1 s0 hG0 a (by first | exact x_rb b_a rfl rfl | exact ⟨by omega, by omega⟩) b (by first | exact x_rb b_b rfl rfl | exact ⟨by omega, by omega⟩)) ?_)
      rintro s8 v ⟨h_s8, z7, rfl, hz_z7⟩
      rw [h_s8]
      rcases hz_z7 with ⟨c_z7, e_z7⟩ | e_z7
      · rw [e_z7]
        show xe none 64 24 [(0, .ref 1), (1, vi a), (2, vi b)] [vi 1] s0 0 0 _
        refine x_if_ne k64_24 (t := 31) rfl ⟨by decide, by decide⟩ (fun c9 => ?_) (fun c9 => by exfalso; omega)
        refine x_A k64_31 (fun _ => rfl) ?_
        exact x_zret k64_32 rfl ⟨by omega, by omega⟩ ⟨rfl, 0, rfl, by omega⟩
      · rw [e_z7]
        show xe none 64 24 [(0, .ref 1), (1, vi a), (2, vi b)] [vi 0] s0 0 0 _
        refine x_if_ne k64_24 (t := 31) rfl ⟨by decide, by decide⟩ (fun c10 => by exfalso; omega) (fun c10 => ?_)
        refine x_A k64_27 (fun _ => rfl) ?_
        refine x_goto k64_28 (t := 32) rfl ?_
        exact x_zret k64_32 rfl ⟨by omega, by omega⟩ ⟨rfl, 1, rfl, by omega⟩
  · rw [e_z2]
    show xe none 64 5 [(0, .ref 1), (1, vi a), (2, vi b)] [vi 0] s0 0 0 _
    refine x_if_eq k64_5 (t := 31) rfl ⟨by decide, by decide⟩ (fun c11 => ?_) (fun c11 => by exfalso; omega)
    refine x_A k64_31 (fun _ => rfl) ?_
    exact x_zret k64_32 rfl ⟨by omega, by omega⟩ ⟨rfl, 0, rfl, by omega⟩
theorem C_X7_parentIn_1 (s0 : xS) (hG0 : GI s0) (a : Int) (b_a : (-2147483648) ≤ a ∧ a ≤ 2147483647) (b : Int) (b_b : (-2147483648) ≤ b ∧ b ≤ 2147483647) : xe none 62 0 (lv_args 0 [.ref 1, vi a, vi b]) [] s0 0 0 (fun s' v => GI s' ∧ FL [] s0 s' ∧ ∃ z, v = some (vi z) ∧ ((-1) ≤ z ∧ z ≤ 39)) := by
  have f0 : FL [] s0 s0 := FL.rf
  show xe none 62 0 [(0, .ref 1), (1, vi a), (2, vi b)] [] s0 0 0 _
  refine x_A k62_0 (fun _ => rfl) ?_
  refine x_A k62_1 (fun _ => rfl) ?_
  obtain ⟨z1, e_z1⟩ : ∃ z, z = s0 1 4 := ⟨_, rfl⟩
  have g_z1 : (1 : Int) ≤ s0 1 4 ∧ s0 1 4 ≤ 40 := hG0 1 4
  refine x_callV k62_2 (y := 59) (n := 1) (w0 := 0) (w1 := 1) (as := [vi a]) (rest := []) (by decide +kernel) (q := 1) (nq := 5) (kq := 4) ⟨by decide, rfl⟩ rfl rfl rfl rfl (xe_mono (C_X7_has_1 s0 hG0 a (by first | exact x_rb b_a rfl rfl | exact ⟨by omega, by omega⟩)) ?_)
  rintro s3 v ⟨h_s3, z2, rfl, hz_z2⟩
  rw [h_s3]
  rcases hz_z2 with ⟨c_z2, e_z2⟩ | ⟨c_z2, e_z2⟩
  · rw [e_z2]
    show xe none 62 5 [(0, .ref 1), (1, vi a), (2, vi b)] [vi 1] s0 0 0 _
    refine x_if_eq k62_5 (t := 29) rfl ⟨by decide, by decide⟩ (fun c4 => by exfalso; omega) (fun c4 => ?_)
    refine x_A k62_8 (fun _ => rfl) ?_
    refine x_A k62_9 (fun _ => rfl) ?_
    refine x_bipush k62_10 (by decide +kernel) ?_
    refine x_callS k62_12 (y := 121) (n := 3) (w0 := 0) (w1 := 3) (as := [vi b, vi 0, vi 9]) (rest := []) (by decide +kernel) rfl rfl rfl rfl (xe_mono (C_X10_isWithin s0 hG0 b (by first | exact x_rb b_b rfl rfl | exact ⟨by omega, by omega⟩) 0 ⟨by decide, by decide⟩ 9 ⟨by decide, by decide⟩) ?_)
    rintro s6 v ⟨h_s6, z5, rfl, hz_z5⟩
    rw [h_s6]
    rcases hz_z5 with ⟨c_z5, e_z5⟩ | ⟨c_z5, e_z5⟩
    · rw [e_z5]
      show xe none 62 15 [(0, .ref 1), (1, vi a), (2, vi b)] [vi 1] s0 0 0 _
      refine x_if_eq k62_15 (t := 29) rfl ⟨by decide, by decide⟩ (fun c7 => by exfalso; omega) (fun c7 => ?_)
      refine x_A k62_18 (fun _ => rfl) ?_
      refine x_getR k62_19 (f := 3) rfl (q := 1) (n := 5) (kd := 4) ⟨by decide, rfl⟩ (q2 := 5) (by decide) rfl ?_
      refine x_A k62_22 (fun _ => rfl) ?_
      refine x_aald k62_23 (q := 5) (t := 23) (n := 40) ⟨by decide, rfl⟩ (by decide) (by decide) ⟨by omega, by omega⟩ ?_
      refine x_A k62_24 (fun _ => rfl) ?_
      refine x_iald k62_25 (q := (5 + 1 + a.toNat)) (n := 10) (xg_6 (by omega) (by omega)) (by decide) (by first | exact x_rbl b_b rfl rfl | exact ⟨by omega, by omega⟩) ?_
      refine x_top (fun z8 e_z8 => ?_)
      have r_z8 := hG0 (5 + 1 + a.toNat) b.toNat
      rw [(gr_6 b.toNat (show 6 ≤ (5 + 1 + a.toNat) by omega) (by omega)).1, (gr_6 b.toNat (show 6 ≤ (5 + 1 + a.toNat) by omega) (by omega)).2.1, ← e_z8] at r_z8
      refine x_goto k62_26 (t := 30) rfl ?_
      exact x_iret k62_30 rfl ⟨hG0, f0, z8, rfl, (by first | exact x_rbe e_z8 g_z8 rfl rfl | exact x_rb g_z8 rfl rfl | exact ⟨by omega, by omega⟩)⟩
    · rw [e_z5]
      show xe none 62 15 [(0, .ref 1), (1, vi a), (2, vi b)] [vi 0] s0 0 0 _
      refine x_if_eq k62_15 (t := 29) rfl ⟨by decide, by decide⟩ (fun c9 => ?_) (fun c9 => by exfalso; omega)
      refine x_A k62_29 (fun _ => rfl) ?_
      exact x_iret k62_30 rfl ⟨hG0, f0, (-1), rfl, ⟨by decide, by decide⟩⟩
  · rw [e_z2]
    show xe none 62 5 [(0, .ref 1), (1, vi a), (2, vi b)] [vi 0] s0 0 0 _
    refine x_if_eq k62_5 (t := 29) rfl ⟨by decide, by decide⟩ (fun c10 => ?_) (fun c10 => by exfalso; omega)
    refine x_A k62_29 (fun _ => rfl) ?_
    exact x_iret k62_30 rfl ⟨hG0, f0, (-1), rfl, ⟨by decide, by decide⟩⟩
theorem C_X11_isTold_256 (s0 : xS) (hG0 : GI s0) (a : Int) (b_a : (-2147483648) ≤ a ∧ a ≤ 2147483647) (b : Int) (b_b : (-2147483648) ≤ b ∧ b ≤ 2147483647) : xe none 141 0 (lv_args 0 [.ref 256, vi a, vi b]) [] s0 0 0 (fun s' v => s' = s0 ∧ ∃ z, v = some (vi z) ∧ (((a ≥ 0 ∧ a < s0 256 1) ∧ z = 1 ∧ s0 257 a.toNat ≤ b) ∨ (z = 0 ∧ ¬ (0 ≤ a ∧ a < s0 256 1 ∧ s0 257 a.toNat ≤ b)))) := by
  have f0 : FL [] s0 s0 := FL.rf
  show xe none 141 0 [(0, .ref 256), (1, vi a), (2, vi b)] [] s0 0 0 _
  refine x_A k141_0 (fun _ => rfl) ?_
  refine x_A k141_1 (fun _ => rfl) ?_
  obtain ⟨z1, e_z1⟩ : ∃ z, z = s0 256 1 := ⟨_, rfl⟩
  have g_z1 : (1 : Int) ≤ s0 256 1 ∧ s0 256 1 ≤ 40 := hG0 256 1
  refine x_callV k141_2 (y := 137) (n := 1) (w0 := 0) (w1 := 1) (as := [vi a]) (rest := []) (by decide +kernel) (q := 256) (nq := 62) (kq := 15) ⟨by decide, rfl⟩ rfl rfl rfl rfl (xe_mono (C_X11_isMark_256 s0 hG0 a (by first | exact x_rb b_a rfl rfl | exact ⟨by omega, by omega⟩)) ?_)
  rintro s3 v ⟨h_s3, z2, rfl, hz_z2⟩
  rw [h_s3]
  rcases hz_z2 with ⟨c_z2, e_z2⟩ | ⟨c_z2, e_z2⟩
  · rw [e_z2]
    show xe none 141 5 [(0, .ref 256), (1, vi a), (2, vi b)] [vi 1] s0 0 0 _
    refine x_if_eq k141_5 (t := 22) rfl ⟨by decide, by decide⟩ (fun c4 => by exfalso; omega) (fun c4 => ?_)
    refine x_A k141_8 (fun _ => rfl) ?_
    refine x_getR k141_9 (f := 2) rfl (q := 256) (n := 62) (kd := 15) ⟨by decide, rfl⟩ (q2 := 257) (by decide) rfl ?_
    refine x_A k141_12 (fun _ => rfl) ?_
    refine x_iald k141_13 (q := 257) (n := 40) ⟨by decide, rfl⟩ (by decide) (by first | exact x_rbl b_a rfl rfl | exact ⟨by omega, by omega⟩) ?_
    refine x_top (fun z5 e_z5 => ?_)
    have g_z5 : (0 : Int) ≤ s0 257 a.toNat ∧ s0 257 a.toNat ≤ 9 := hG0 257 a.toNat
    refine x_A k141_14 (fun _ => rfl) ?_
    refine x_ic_gt k141_15 (t := 22) rfl (by first | exact x_rbe e_z5 g_z5 rfl rfl | exact x_rb g_z5 rfl rfl | exact ⟨by omega, by omega⟩) (by first | exact x_rb b_b rfl rfl | exact ⟨by omega, by omega⟩) (fun c6 => ?_) (fun c6 => ?_)
    · skip
      refine x_A k141_22 (fun _ => rfl) ?_
      exact x_zret k141_23 rfl ⟨by omega, by omega⟩ ⟨rfl, 0, rfl, by omega⟩
    · skip
      refine x_A k141_18 (fun _ => rfl) ?_
      refine x_goto k141_19 (t := 23) rfl ?_
      exact x_zret k141_23 rfl ⟨by omega, by omega⟩ ⟨rfl, 1, rfl, by omega⟩
  · rw [e_z2]
    show xe none 141 5 [(0, .ref 256), (1, vi a), (2, vi b)] [vi 0] s0 0 0 _
    refine x_if_eq k141_5 (t := 22) rfl ⟨by decide, by decide⟩ (fun c7 => ?_) (fun c7 => by exfalso; omega)
    refine x_A k141_22 (fun _ => rfl) ?_
    exact x_zret k141_23 rfl ⟨by omega, by omega⟩ ⟨rfl, 0, rfl, by omega⟩
theorem C_X11_isThere_256 (s0 : xS) (hG0 : GI s0) (a : Int) (b_a : (-2147483648) ≤ a ∧ a ≤ 2147483647) (b : Int) (b_b : (-2147483648) ≤ b ∧ b ≤ 2147483647) : xe none 142 0 (lv_args 0 [.ref 256, vi a, vi b]) [] s0 0 0 (fun s' v => s' = s0 ∧ ∃ z, v = some (vi z) ∧ (((a ≥ 0 ∧ a < s0 256 1) ∧ z = 1 ∧ (s0 257 a.toNat ≤ b ∧ (s0 258 a.toNat < 0 ∨ b < s0 258 a.toNat))) ∨ (z = 0 ∧ ¬ (0 ≤ a ∧ a < s0 256 1 ∧ (s0 257 a.toNat ≤ b ∧ (s0 258 a.toNat < 0 ∨ b < s0 258 a.toNat)))))) := by
  have f0 : FL [] s0 s0 := FL.rf
  show xe none 142 0 [(0, .ref 256), (1, vi a), (2, vi b)] [] s0 0 0 _
  refine x_A k142_0 (fun _ => rfl) ?_
  refine x_A k142_1 (fun _ => rfl) ?_
  refine x_A k142_2 (fun _ => rfl) ?_
  obtain ⟨z1, e_z1⟩ : ∃ z, z = s0 256 1 := ⟨_, rfl⟩
  have g_z1 : (1 : Int) ≤ s0 256 1 ∧ s0 256 1 ≤ 40 := hG0 256 1
  refine x_callV k142_3 (y := 141) (n := 2) (w0 := 0) (w1 := 2) (as := [vi a, vi b]) (rest := []) (by decide +kernel) (q := 256) (nq := 62) (kq := 15) ⟨by decide, rfl⟩ rfl rfl rfl rfl (xe_mono (C_X11_isTold_256 s0 hG0 a (by first | exact x_rb b_a rfl rfl | exact ⟨by omega, by omega⟩) b (by first | exact x_rb b_b rfl rfl | exact ⟨by omega, by omega⟩)) ?_)
  rintro s3 v ⟨h_s3, z2, rfl, hz_z2⟩
  rw [h_s3]
  rcases hz_z2 with ⟨c_z2, e_z2, m_z2⟩ | ⟨e_z2, m_z2⟩
  · rw [e_z2]
    show xe none 142 6 [(0, .ref 256), (1, vi a), (2, vi b)] [vi 1] s0 0 0 _
    refine x_if_eq k142_6 (t := 32) rfl ⟨by decide, by decide⟩ (fun c4 => by exfalso; omega) (fun c4 => ?_)
    refine x_A k142_9 (fun _ => rfl) ?_
    refine x_getR k142_10 (f := 3) rfl (q := 256) (n := 62) (kd := 15) ⟨by decide, rfl⟩ (q2 := 258) (by decide) rfl ?_
    refine x_A k142_13 (fun _ => rfl) ?_
    refine x_iald k142_14 (q := 258) (n := 40) ⟨by decide, rfl⟩ (by decide) (by first | exact x_rbl b_a rfl rfl | exact ⟨by omega, by omega⟩) ?_
    refine x_top (fun z5 e_z5 => ?_)
    have g_z5 : (-1) ≤ s0 258 a.toNat ∧ s0 258 a.toNat ≤ 9 := hG0 258 a.toNat
    refine x_if_lt k142_15 (t := 28) rfl (by first | exact x_rbe e_z5 g_z5 rfl rfl | exact x_rb g_z5 rfl rfl | exact ⟨by omega, by omega⟩) (fun c6 => ?_) (fun c6 => ?_)
    · skip
      refine x_A k142_28 (fun _ => rfl) ?_
      refine x_goto k142_29 (t := 33) rfl ?_
      exact x_zret k142_33 rfl ⟨by omega, by omega⟩ ⟨rfl, 1, rfl, by omega⟩
    · skip
      refine x_A k142_18 (fun _ => rfl) ?_
      refine x_getR k142_19 (f := 3) rfl (q := 256) (n := 62) (kd := 15) ⟨by decide, rfl⟩ (q2 := 258) (by decide) rfl ?_
      refine x_A k142_22 (fun _ => rfl) ?_
      refine x_iald k142_23 (q := 258) (n := 40) ⟨by decide, rfl⟩ (by decide) (by first | exact x_rbl b_a rfl rfl | exact ⟨by omega, by omega⟩) ?_
      rw [e_z5.symm]
      refine x_A k142_24 (fun _ => rfl) ?_
      refine x_ic_le k142_25 (t := 32) rfl (by first | exact x_rbe e_z5 g_z5 rfl rfl | exact x_rb g_z5 rfl rfl | exact ⟨by omega, by omega⟩) (by first | exact x_rb b_b rfl rfl | exact ⟨by omega, by omega⟩) (fun c7 => ?_) (fun c7 => ?_)
      · skip
        refine x_A k142_32 (fun _ => rfl) ?_
        exact x_zret k142_33 rfl ⟨by omega, by omega⟩ ⟨rfl, 0, rfl, by omega⟩
      · skip
        refine x_A k142_28 (fun _ => rfl) ?_
        refine x_goto k142_29 (t := 33) rfl ?_
        exact x_zret k142_33 rfl ⟨by omega, by omega⟩ ⟨rfl, 1, rfl, by omega⟩
  · rw [e_z2]
    show xe none 142 6 [(0, .ref 256), (1, vi a), (2, vi b)] [vi 0] s0 0 0 _
    refine x_if_eq k142_6 (t := 32) rfl ⟨by decide, by decide⟩ (fun c8 => ?_) (fun c8 => by exfalso; omega)
    refine x_A k142_32 (fun _ => rfl) ?_
    exact x_zret k142_33 rfl ⟨by omega, by omega⟩ ⟨rfl, 0, rfl, by omega⟩
theorem C_X3_add_46 (s0 : xS) (hG0 : GI s0) (a : Int) (b_a : 0 ≤ a ∧ a ≤ 999) (b : Int) (b_b : 0 ≤ b ∧ b ≤ 9) (d : Int) (b_d : (-2147483648) ≤ d ∧ d ≤ 2147483647) : xe none 30 0 (lv_args 0 [.ref 46, vi a, vi b, vi d]) [] s0 0 0 (fun s' v => GI s' ∧ FL [452, 512, 576, 640] s0 s' ∧ ∃ z, v = some (vi z) ∧ ((-1004) ≤ z ∧ z ≤ 39)) := by
  have f0 : FL [452, 512, 576, 640] s0 s0 := FL.rf
  show xe none 30 0 [(0, .ref 46), (1, vi a), (2, vi b), (3, vi d)] [] s0 0 0 _
  refine x_A k30_0 (fun _ => rfl) ?_
  refine x_getI k30_1 (f := 3) rfl (q := 46) (n := 4) (kd := 5) ⟨by decide, rfl⟩ (by decide) rfl ?_
  refine x_top (fun z1 e_z1 => ?_)
  have g_z1 : (0 : Int) ≤ s0 46 3 ∧ s0 46 3 ≤ 40 := hG0 46 3
  refine x_istore k30_4 (ls' := [(4, vi z1), (0, .ref 46), (1, vi a), (2, vi b), (3, vi d)]) (by decide) rfl ?_
  refine x_A k30_6 (fun _ => rfl) ?_
  refine x_bipush k30_8 (by decide +kernel) ?_
  refine x_ic_lt k30_10 (t := 17) rfl (by first | exact x_rbe e_z1 g_z1 rfl rfl | exact x_rb g_z1 rfl rfl | exact ⟨by omega, by omega⟩) ⟨by decide, by decide⟩ (fun c2 => ?_) (fun c2 => ?_)
  · skip
    refine x_A k30_17 (fun _ => rfl) ?_
    refine x_getR k30_18 (f := 0) rfl (q := 46) (n := 4) (kd := 5) ⟨by decide, rfl⟩ (q2 := 47) (by decide) rfl ?_
    refine x_A k30_21 (fun _ => rfl) ?_
    refine x_A k30_23 (fun _ => rfl) ?_
    refine x_iast k30_24 (q := 47) (n := 40) ⟨by decide, rfl⟩ (by decide) (by first | exact x_rbel e_z1 g_z1 rfl rfl | exact x_rbl g_z1 rfl rfl | exact ⟨by omega, by omega⟩) ?_
    refine x_nh (fun s3 e_s3 => ?_)
    have hG_s3 : GI s3 := by rw [e_s3]; exact hG0.up (show 0 ≤ a ∧ a ≤ 999 from (by first | exact x_rb b_a rfl rfl | exact ⟨by omega, by omega⟩))
    have f_s3 : FL [452, 512, 576, 640] s0 s3 := by rw [e_s3]; exact f0.up (show 512 ∈ [452, 512, 576, 640] from by decide +kernel)
    have q4 : s3 46 3 = z1 := by rw [e_s3, x_up_q (by decide)]; exact e_z1.symm
    have q5 : s3 47 z1.toNat = a := by rw [e_s3]; exact x_up_same
    refine x_A k30_25 (fun _ => rfl) ?_
    refine x_getR k30_26 (f := 1) rfl (q := 46) (n := 4) (kd := 5) ⟨by decide, rfl⟩ (q2 := 48) (by decide) rfl ?_
    refine x_A k30_29 (fun _ => rfl) ?_
    refine x_A k30_31 (fun _ => rfl) ?_
    refine x_iast k30_32 (q := 48) (n := 40) ⟨by decide, rfl⟩ (by decide) (by first | exact x_rbel e_z1 g_z1 rfl rfl | exact x_rbl g_z1 rfl rfl | exact ⟨by omega, by omega⟩) ?_
    refine x_nh (fun s6 e_s6 => ?_)
    have hG_s6 : GI s6 := by rw [e_s6]; exact hG_s3.up (show 0 ≤ b ∧ b ≤ 9 from (by first | exact x_rb b_b rfl rfl | exact ⟨by omega, by omega⟩))
    have f_s6 : FL [452, 512, 576, 640] s0 s6 := by rw [e_s6]; exact f_s3.up (show 576 ∈ [452, 512, 576, 640] from by decide +kernel)
    have q7 : s6 46 3 = z1 := by rw [e_s6, x_up_q (by decide)]; exact q4
    have q8 : s6 47 z1.toNat = a := by rw [e_s6, x_up_q (by first | decide | omega)]; exact q5
    have q9 : s6 48 z1.toNat = b := by rw [e_s6]; exact x_up_same
    refine x_A k30_33 (fun _ => rfl) ?_
    refine x_getR k30_34 (f := 2) rfl (q := 46) (n := 4) (kd := 5) ⟨by decide, rfl⟩ (q2 := 49) (by decide) rfl ?_
    refine x_A k30_37 (fun _ => rfl) ?_
    refine x_A k30_39 (fun _ => rfl) ?_
    refine x_A k30_40 (fun _ => rfl) ?_
    refine x_callV k30_41 (y := 29) (n := 1) (w0 := 2) (w1 := 1) (as := [vi d]) (rest := [vi z1, .ref 49]) (by decide +kernel) (q := 46) (nq := 4) (kq := 5) ⟨by decide, rfl⟩ rfl rfl rfl rfl (xe_mono (C_X3_has_46 s6 hG_s6 d (by first | exact x_rb b_d rfl rfl | exact ⟨by omega, by omega⟩)) ?_)
    rintro s11 v ⟨h_s11, z10, rfl, hz_z10⟩
    rw [h_s11]
    rcases hz_z10 with ⟨c_z10, e_z10⟩ | ⟨c_z10, e_z10⟩
    · rw [e_z10]
      show xe none 30 44 [(4, vi z1), (0, .ref 46), (1, vi a), (2, vi b), (3, vi d)] [vi 1, vi z1, .ref 49] s6 0 0 _
      refine x_if_eq k30_44 (t := 56) rfl ⟨by decide, by decide⟩ (fun c12 => by exfalso; omega) (fun c12 => ?_)
      refine x_A k30_47 (fun _ => rfl) ?_
      refine x_getR k30_48 (f := 2) rfl (q := 46) (n := 4) (kd := 5) ⟨by decide, rfl⟩ (q2 := 49) (by decide) rfl ?_
      refine x_A k30_51 (fun _ => rfl) ?_
      refine x_iald k30_52 (q := 49) (n := 40) ⟨by decide, rfl⟩ (by decide) (by first | exact x_rbl b_d rfl rfl | exact ⟨by omega, by omega⟩) ?_
      refine x_top (fun z13 e_z13 => ?_)
      have g_z13 : (0 : Int) ≤ s6 49 d.toNat ∧ s6 49 d.toNat ≤ 39 := hG_s6 49 d.toNat
      refine x_goto k30_53 (t := 58) rfl ?_
      refine x_iast k30_58 (q := 49) (n := 40) ⟨by decide, rfl⟩ (by decide) (by first | exact x_rbel e_z1 g_z1 rfl rfl | exact x_rbl g_z1 rfl rfl | exact ⟨by omega, by omega⟩) ?_
      refine x_nh (fun s14 e_s14 => ?_)
      have hG_s14 : GI s14 := by rw [e_s14]; exact hG_s6.up (show 0 ≤ z13 ∧ z13 ≤ 39 from (by first | exact x_rbe e_z13 g_z13 rfl rfl | exact x_rb g_z13 rfl rfl | exact ⟨by omega, by omega⟩))
      have f_s14 : FL [452, 512, 576, 640] s0 s14 := by rw [e_s14]; exact f_s6.up (show 640 ∈ [452, 512, 576, 640] from by decide +kernel)
      have q15 : s14 46 3 = z1 := by rw [e_s14, x_up_q (by decide)]; exact q7
      have q16 : s14 47 z1.toNat = a := by rw [e_s14, x_up_q (by first | decide | omega)]; exact q8
      have q17 : s14 48 z1.toNat = b := by rw [e_s14, x_up_q (by first | decide | omega)]; exact q9
      have q18 : s14 49 z1.toNat = z13 := by rw [e_s14]; exact x_up_same
      refine x_A k30_59 (fun _ => rfl) ?_
      refine x_A k30_60 (fun _ => rfl) ?_
      refine x_getI k30_61 (f := 3) rfl (q := 46) (n := 4) (kd := 5) ⟨by decide, rfl⟩ (by decide) rfl ?_
      rw [q15]
      refine x_A k30_64 (fun _ => rfl) ?_
      refine x_iadd k30_65 ?_
      refine x_top (fun z19 e_z19 => ?_)
      refine x_putI k30_66 (f := 3) rfl (q := 46) (n := 4) (kd := 5) ⟨by decide, rfl⟩ rfl rfl rfl ?_
      refine x_nh (fun s20 e_s20 => ?_)
      have hG_s20 : GI s20 := by rw [e_s20]; exact hG_s14.up (show 0 ≤ z19 ∧ z19 ≤ 40 from (by first | exact x_rbe e_z19 g_z19 rfl rfl | exact x_rb g_z19 rfl rfl | exact ⟨by omega, by omega⟩))
      have f_s20 : FL [452, 512, 576, 640] s0 s20 := by rw [e_s20]; exact f_s14.up (show 452 ∈ [452, 512, 576, 640] from by decide +kernel)
      have q21 : s20 46 3 = z19 := by rw [e_s20]; exact x_up_same
      have q22 : s20 47 z1.toNat = a := by rw [e_s20, x_up_q (by first | decide | omega)]; exact q16
      have q23 : s20 48 z1.toNat = b := by rw [e_s20, x_up_q (by first | decide | omega)]; exact q17
      have q24 : s20 49 z1.toNat = z13 := by rw [e_s20, x_up_q (by first | decide | omega)]; exact q18
      refine x_A k30_69 (fun _ => rfl) ?_
      exact x_iret k30_71 rfl ⟨hG_s20, f_s20, z1, rfl, (by first | exact x_rbe e_z1 g_z1 rfl rfl | exact x_rb g_z1 rfl rfl | exact ⟨by omega, by omega⟩)⟩
    · rw [e_z10]
      show xe none 30 44 [(4, vi z1), (0, .ref 46), (1, vi a), (2, vi b), (3, vi d)] [vi 0, vi z1, .ref 49] s6 0 0 _
      refine x_if_eq k30_44 (t := 56) rfl ⟨by decide, by decide⟩ (fun c25 => ?_) (fun c25 => by exfalso; omega)
      refine x_A k30_56 (fun _ => rfl) ?_
      refine x_iast k30_58 (q := 49) (n := 40) ⟨by decide, rfl⟩ (by decide) (by first | exact x_rbel e_z1 g_z1 rfl rfl | exact x_rbl g_z1 rfl rfl | exact ⟨by omega, by omega⟩) ?_
      refine x_nh (fun s26 e_s26 => ?_)
      have hG_s26 : GI s26 := by rw [e_s26]; exact hG_s6.up (show 0 ≤ z1 ∧ z1 ≤ 39 from (by first | exact x_rbe e_z1 g_z1 rfl rfl | exact x_rb g_z1 rfl rfl | exact ⟨by omega, by omega⟩))
      have f_s26 : FL [452, 512, 576, 640] s0 s26 := by rw [e_s26]; exact f_s6.up (show 640 ∈ [452, 512, 576, 640] from by decide +kernel)
      have q27 : s26 46 3 = z1 := by rw [e_s26, x_up_q (by decide)]; exact q7
      have q28 : s26 47 z1.toNat = a := by rw [e_s26, x_up_q (by first | decide | omega)]; exact q8
      have q29 : s26 48 z1.toNat = b := by rw [e_s26, x_up_q (by first | decide | omega)]; exact q9
      have q30 : s26 49 z1.toNat = z1 := by rw [e_s26]; exact x_up_same
      refine x_A k30_59 (fun _ => rfl) ?_
      refine x_A k30_60 (fun _ => rfl) ?_
      refine x_getI k30_61 (f := 3) rfl (q := 46) (n := 4) (kd := 5) ⟨by decide, rfl⟩ (by decide) rfl ?_
      rw [q27]
      refine x_A k30_64 (fun _ => rfl) ?_
      refine x_iadd k30_65 ?_
      refine x_top (fun z31 e_z31 => ?_)
      refine x_putI k30_66 (f := 3) rfl (q := 46) (n := 4) (kd := 5) ⟨by decide, rfl⟩ rfl rfl rfl ?_
      refine x_nh (fun s32 e_s32 => ?_)
      have hG_s32 : GI s32 := by rw [e_s32]; exact hG_s26.up (show 0 ≤ z31 ∧ z31 ≤ 40 from (by first | exact x_rbe e_z31 g_z31 rfl rfl | exact x_rb g_z31 rfl rfl | exact ⟨by omega, by omega⟩))
      have f_s32 : FL [452, 512, 576, 640] s0 s32 := by rw [e_s32]; exact f_s26.up (show 452 ∈ [452, 512, 576, 640] from by decide +kernel)
      have q33 : s32 46 3 = z31 := by rw [e_s32]; exact x_up_same
      have q34 : s32 47 z1.toNat = a := by rw [e_s32, x_up_q (by first | decide | omega)]; exact q28
      have q35 : s32 48 z1.toNat = b := by rw [e_s32, x_up_q (by first | decide | omega)]; exact q29
      have q36 : s32 49 z1.toNat = z1 := by rw [e_s32, x_up_q (by first | decide | omega)]; exact q30
      refine x_A k30_69 (fun _ => rfl) ?_
      exact x_iret k30_71 rfl ⟨hG_s32, f_s32, z1, rfl, (by first | exact x_rbe e_z1 g_z1 rfl rfl | exact x_rb g_z1 rfl rfl | exact ⟨by omega, by omega⟩)⟩
  · skip
    refine x_sipush k30_13 (by decide +kernel) ?_
    exact x_iret k30_16 rfl ⟨hG0, f0, (-1004), rfl, ⟨by decide, by decide⟩⟩
theorem C_X10_picture_0 (s0 : xS) (hG0 : GI s0) (a : Int) (b_a : (-2147483648) ≤ a ∧ a ≤ 2147483647) (b : Int) (b_b : (-2147483648) ≤ b ∧ b ≤ 2147483647) (d : Int) (b_d : (-2147483648) ≤ d ∧ d ≤ 2147483647) : xe none 97 0 (lv_args 0 [.ref 0, vi a, vi b, vi d]) [] s0 0 0 (fun s' v => GI s' ∧ FL [452, 512, 576, 640] s0 s' ∧ ∃ z, v = some (vi z) ∧ ((-1004) ≤ z ∧ z ≤ 39)) := by
  have f0 : FL [452, 512, 576, 640] s0 s0 := FL.rf
  show xe none 97 0 [(0, .ref 0), (1, vi a), (2, vi b), (3, vi d)] [] s0 0 0 _
  refine x_A k97_0 (fun _ => rfl) ?_
  refine x_A k97_1 (fun _ => rfl) ?_
  refine x_ic_eq k97_2 (t := 20) rfl (by first | exact x_rb b_d rfl rfl | exact ⟨by omega, by omega⟩) ⟨by decide, by decide⟩ (fun c1 => ?_) (fun c1 => ?_)
  · skip
    refine x_A k97_20 (fun _ => rfl) ?_
    refine x_callS k97_21 (y := 122) (n := 1) (w0 := 0) (w1 := 1) (as := [vi a]) (rest := []) (by decide +kernel) rfl rfl rfl rfl (xe_mono (C_X10_isYear s0 hG0 a (by first | exact x_rb b_a rfl rfl | exact ⟨by omega, by omega⟩)) ?_)
    rintro s3 v ⟨h_s3, z2, rfl, hz_z2⟩
    rw [h_s3]
    rcases hz_z2 with ⟨c_z2, e_z2⟩ | ⟨c_z2, e_z2⟩
    · rw [e_z2]
      show xe none 97 24 [(0, .ref 0), (1, vi a), (2, vi b), (3, vi d)] [vi 1] s0 0 0 _
      refine x_if_eq k97_24 (t := 37) rfl ⟨by decide, by decide⟩ (fun c4 => by exfalso; omega) (fun c4 => ?_)
      refine x_A k97_27 (fun _ => rfl) ?_
      refine x_A k97_28 (fun _ => rfl) ?_
      refine x_bipush k97_29 (by decide +kernel) ?_
      refine x_callS k97_31 (y := 121) (n := 3) (w0 := 0) (w1 := 3) (as := [vi b, vi 0, vi 9]) (rest := []) (by decide +kernel) rfl rfl rfl rfl (xe_mono (C_X10_isWithin s0 hG0 b (by first | exact x_rb b_b rfl rfl | exact ⟨by omega, by omega⟩) 0 ⟨by decide, by decide⟩ 9 ⟨by decide, by decide⟩) ?_)
      rintro s6 v ⟨h_s6, z5, rfl, hz_z5⟩
      rw [h_s6]
      rcases hz_z5 with ⟨c_z5, e_z5⟩ | ⟨c_z5, e_z5⟩
      · rw [e_z5]
        show xe none 97 34 [(0, .ref 0), (1, vi a), (2, vi b), (3, vi d)] [vi 1] s0 0 0 _
        refine x_if_ne k97_34 (t := 41) rfl ⟨by decide, by decide⟩ (fun c7 => ?_) (fun c7 => by exfalso; omega)
        refine x_A k97_41 (fun _ => rfl) ?_
        refine x_getR k97_42 (f := 1) rfl (q := 0) (n := 12) (kd := 3) ⟨by decide, rfl⟩ (q2 := 46) (by decide) rfl ?_
        refine x_A k97_45 (fun _ => rfl) ?_
        refine x_A k97_46 (fun _ => rfl) ?_
        refine x_A k97_47 (fun _ => rfl) ?_
        refine x_callV k97_48 (y := 30) (n := 3) (w0 := 0) (w1 := 3) (as := [vi a, vi b, vi d]) (rest := []) (by decide +kernel) (q := 46) (nq := 4) (kq := 5) ⟨by decide, rfl⟩ rfl rfl rfl rfl (xe_mono (C_X3_add_46 s0 hG0 a (by first | exact x_rb b_a rfl rfl | exact ⟨by omega, by omega⟩) b (by first | exact x_rb b_b rfl rfl | exact ⟨by omega, by omega⟩) d (by first | exact x_rb b_d rfl rfl | exact ⟨by omega, by omega⟩)) ?_)
        rintro s9 v ⟨hG_s9, t_s9, z8, rfl, g_z8⟩
        have f_s9 : FL [452, 512, 576, 640] s0 s9 := f0.tr t_s9 (by decide +kernel)
        show xe none 97 51 [(0, .ref 0), (1, vi a), (2, vi b), (3, vi d)] [vi z8] s9 0 0 _
        exact x_iret k97_51 rfl ⟨hG_s9, f_s9, z8, rfl, (by first | exact x_rbe e_z8 g_z8 rfl rfl | exact x_rb g_z8 rfl rfl | exact ⟨by omega, by omega⟩)⟩
      · rw [e_z5]
        show xe none 97 34 [(0, .ref 0), (1, vi a), (2, vi b), (3, vi d)] [vi 0] s0 0 0 _
        refine x_if_ne k97_34 (t := 41) rfl ⟨by decide, by decide⟩ (fun c10 => by exfalso; omega) (fun c10 => ?_)
        refine x_sipush k97_37 (by decide +kernel) ?_
        exact x_iret k97_40 rfl ⟨hG0, f0, (-1002), rfl, ⟨by decide, by decide⟩⟩
    · rw [e_z2]
      show xe none 97 24 [(0, .ref 0), (1, vi a), (2, vi b), (3, vi d)] [vi 0] s0 0 0 _
      refine x_if_eq k97_24 (t := 37) rfl ⟨by decide, by decide⟩ (fun c11 => ?_) (fun c11 => by exfalso; omega)
      refine x_sipush k97_37 (by decide +kernel) ?_
      exact x_iret k97_40 rfl ⟨hG0, f0, (-1002), rfl, ⟨by decide, by decide⟩⟩
  · skip
    refine x_A k97_5 (fun _ => rfl) ?_
    refine x_getR k97_6 (f := 1) rfl (q := 0) (n := 12) (kd := 3) ⟨by decide, rfl⟩ (q2 := 46) (by decide) rfl ?_
    refine x_A k97_9 (fun _ => rfl) ?_
    obtain ⟨z12, e_z12⟩ : ∃ z, z = s0 46 3 := ⟨_, rfl⟩
    have g_z12 : (0 : Int) ≤ s0 46 3 ∧ s0 46 3 ≤ 40 := hG0 46 3
    refine x_callV k97_10 (y := 29) (n := 1) (w0 := 0) (w1 := 1) (as := [vi d]) (rest := []) (by decide +kernel) (q := 46) (nq := 4) (kq := 5) ⟨by decide, rfl⟩ rfl rfl rfl rfl (xe_mono (C_X3_has_46 s0 hG0 d (by first | exact x_rb b_d rfl rfl | exact ⟨by omega, by omega⟩)) ?_)
    rintro s14 v ⟨h_s14, z13, rfl, hz_z13⟩
    rw [h_s14]
    rcases hz_z13 with ⟨c_z13, e_z13⟩ | ⟨c_z13, e_z13⟩
    · rw [e_z13]
      show xe none 97 13 [(0, .ref 0), (1, vi a), (2, vi b), (3, vi d)] [vi 1] s0 0 0 _
      refine x_if_ne k97_13 (t := 20) rfl ⟨by decide, by decide⟩ (fun c15 => ?_) (fun c15 => by exfalso; omega)
      refine x_A k97_20 (fun _ => rfl) ?_
      refine x_callS k97_21 (y := 122) (n := 1) (w0 := 0) (w1 := 1) (as := [vi a]) (rest := []) (by decide +kernel) rfl rfl rfl rfl (xe_mono (C_X10_isYear s0 hG0 a (by first | exact x_rb b_a rfl rfl | exact ⟨by omega, by omega⟩)) ?_)
      rintro s17 v ⟨h_s17, z16, rfl, hz_z16⟩
      rw [h_s17]
      rcases hz_z16 with ⟨c_z16, e_z16⟩ | ⟨c_z16, e_z16⟩
      · rw [e_z16]
        show xe none 97 24 [(0, .ref 0), (1, vi a), (2, vi b), (3, vi d)] [vi 1] s0 0 0 _
        refine x_if_eq k97_24 (t := 37) rfl ⟨by decide, by decide⟩ (fun c18 => by exfalso; omega) (fun c18 => ?_)
        refine x_A k97_27 (fun _ => rfl) ?_
        refine x_A k97_28 (fun _ => rfl) ?_
        refine x_bipush k97_29 (by decide +kernel) ?_
        refine x_callS k97_31 (y := 121) (n := 3) (w0 := 0) (w1 := 3) (as := [vi b, vi 0, vi 9]) (rest := []) (by decide +kernel) rfl rfl rfl rfl (xe_mono (C_X10_isWithin s0 hG0 b (by first | exact x_rb b_b rfl rfl | exact ⟨by omega, by omega⟩) 0 ⟨by decide, by decide⟩ 9 ⟨by decide, by decide⟩) ?_)
        rintro s20 v ⟨h_s20, z19, rfl, hz_z19⟩
        rw [h_s20]
        rcases hz_z19 with ⟨c_z19, e_z19⟩ | ⟨c_z19, e_z19⟩
        · rw [e_z19]
          show xe none 97 34 [(0, .ref 0), (1, vi a), (2, vi b), (3, vi d)] [vi 1] s0 0 0 _
          refine x_if_ne k97_34 (t := 41) rfl ⟨by decide, by decide⟩ (fun c21 => ?_) (fun c21 => by exfalso; omega)
          refine x_A k97_41 (fun _ => rfl) ?_
          refine x_getR k97_42 (f := 1) rfl (q := 0) (n := 12) (kd := 3) ⟨by decide, rfl⟩ (q2 := 46) (by decide) rfl ?_
          refine x_A k97_45 (fun _ => rfl) ?_
          refine x_A k97_46 (fun _ => rfl) ?_
          refine x_A k97_47 (fun _ => rfl) ?_
          refine x_callV k97_48 (y := 30) (n := 3) (w0 := 0) (w1 := 3) (as := [vi a, vi b, vi d]) (rest := []) (by decide +kernel) (q := 46) (nq := 4) (kq := 5) ⟨by decide, rfl⟩ rfl rfl rfl rfl (xe_mono (C_X3_add_46 s0 hG0 a (by first | exact x_rb b_a rfl rfl | exact ⟨by omega, by omega⟩) b (by first | exact x_rb b_b rfl rfl | exact ⟨by omega, by omega⟩) d (by first | exact x_rb b_d rfl rfl | exact ⟨by omega, by omega⟩)) ?_)
          rintro s23 v ⟨hG_s23, t_s23, z22, rfl, g_z22⟩
          have f_s23 : FL [452, 512, 576, 640] s0 s23 := f0.tr t_s23 (by decide +kernel)
          show xe none 97 51 [(0, .ref 0), (1, vi a), (2, vi b), (3, vi d)] [vi z22] s23 0 0 _
          exact x_iret k97_51 rfl ⟨hG_s23, f_s23, z22, rfl, (by first | exact x_rbe e_z22 g_z22 rfl rfl | exact x_rb g_z22 rfl rfl | exact ⟨by omega, by omega⟩)⟩
        · rw [e_z19]
          show xe none 97 34 [(0, .ref 0), (1, vi a), (2, vi b), (3, vi d)] [vi 0] s0 0 0 _
          refine x_if_ne k97_34 (t := 41) rfl ⟨by decide, by decide⟩ (fun c24 => by exfalso; omega) (fun c24 => ?_)
          refine x_sipush k97_37 (by decide +kernel) ?_
          exact x_iret k97_40 rfl ⟨hG0, f0, (-1002), rfl, ⟨by decide, by decide⟩⟩
      · rw [e_z16]
        show xe none 97 24 [(0, .ref 0), (1, vi a), (2, vi b), (3, vi d)] [vi 0] s0 0 0 _
        refine x_if_eq k97_24 (t := 37) rfl ⟨by decide, by decide⟩ (fun c25 => ?_) (fun c25 => by exfalso; omega)
        refine x_sipush k97_37 (by decide +kernel) ?_
        exact x_iret k97_40 rfl ⟨hG0, f0, (-1002), rfl, ⟨by decide, by decide⟩⟩
    · rw [e_z13]
      show xe none 97 13 [(0, .ref 0), (1, vi a), (2, vi b), (3, vi d)] [vi 0] s0 0 0 _
      refine x_if_ne k97_13 (t := 20) rfl ⟨by decide, by decide⟩ (fun c26 => by exfalso; omega) (fun c26 => ?_)
      refine x_sipush k97_16 (by decide +kernel) ?_
      exact x_iret k97_19 rfl ⟨hG0, f0, (-1001), rfl, ⟨by decide, by decide⟩⟩
theorem C_X11_picture_256 (s0 : xS) (hG0 : GI s0) (a : Int) (b_a : (-2147483648) ≤ a ∧ a ≤ 2147483647) (b : Int) (b_b : (-2147483648) ≤ b ∧ b ≤ 2147483647) (d : Int) (b_d : (-2147483648) ≤ d ∧ d ≤ 2147483647) : xe none 154 0 (lv_args 0 [.ref 256, vi a, vi b, vi d]) [] s0 0 0 (fun s' v => GI s' ∧ FL [4103, 4416, 4480, 4544] s0 s' ∧ ∃ z, v = some (vi z) ∧ ((-1004) ≤ z ∧ z ≤ 39)) := by
  have f0 : FL [4103, 4416, 4480, 4544] s0 s0 := FL.rf
  show xe none 154 0 [(0, .ref 256), (1, vi a), (2, vi b), (3, vi d)] [] s0 0 0 _
  refine x_A k154_0 (fun _ => rfl) ?_
  refine x_A k154_1 (fun _ => rfl) ?_
  refine x_ic_eq k154_2 (t := 17) rfl (by first | exact x_rb b_d rfl rfl | exact ⟨by omega, by omega⟩) ⟨by decide, by decide⟩ (fun c1 => ?_) (fun c1 => ?_)
  · skip
    refine x_A k154_17 (fun _ => rfl) ?_
    refine x_i2l k154_18 (by first | exact x_rb b_a rfl rfl | exact ⟨by omega, by omega⟩) ?_
    refine x_lconst k154_19 (z := 0) (by decide +kernel) ?_
    refine x_ldc2 k154_20 (z := 999) rfl (by decide +kernel) ?_
    refine x_callS k154_23 (y := 136) (n := 3) (w0 := 0) (w1 := 6) (as := [vj a, vj 0, vj 999]) (rest := []) (by decide +kernel) rfl rfl rfl rfl (xe_mono (C_X11_in s0 hG0 a ⟨by omega, by omega⟩ 0 ⟨by omega, by omega⟩ 999 ⟨by omega, by omega⟩) ?_)
    rintro s3 v ⟨h_s3, z2, rfl, hz_z2⟩
    rw [h_s3]
    rcases hz_z2 with ⟨c_z2, e_z2⟩ | ⟨c_z2, e_z2⟩
    · rw [e_z2]
      show xe none 154 26 [(0, .ref 256), (1, vi a), (2, vi b), (3, vi d)] [vi 1] s0 0 0 _
      refine x_if_eq k154_26 (t := 41) rfl ⟨by decide, by decide⟩ (fun c4 => by exfalso; omega) (fun c4 => ?_)
      refine x_A k154_29 (fun _ => rfl) ?_
      refine x_i2l k154_30 (by first | exact x_rb b_b rfl rfl | exact ⟨by omega, by omega⟩) ?_
      refine x_lconst k154_31 (z := 0) (by decide +kernel) ?_
      refine x_ldc2 k154_32 (z := 9) rfl (by decide +kernel) ?_
      refine x_callS k154_35 (y := 136) (n := 3) (w0 := 0) (w1 := 6) (as := [vj b, vj 0, vj 9]) (rest := []) (by decide +kernel) rfl rfl rfl rfl (xe_mono (C_X11_in s0 hG0 b ⟨by omega, by omega⟩ 0 ⟨by omega, by omega⟩ 9 ⟨by omega, by omega⟩) ?_)
      rintro s6 v ⟨h_s6, z5, rfl, hz_z5⟩
      rw [h_s6]
      rcases hz_z5 with ⟨c_z5, e_z5⟩ | ⟨c_z5, e_z5⟩
      · rw [e_z5]
        show xe none 154 38 [(0, .ref 256), (1, vi a), (2, vi b), (3, vi d)] [vi 1] s0 0 0 _
        refine x_if_ne k154_38 (t := 45) rfl ⟨by decide, by decide⟩ (fun c7 => ?_) (fun c7 => by exfalso; omega)
        refine x_A k154_45 (fun _ => rfl) ?_
        refine x_getI k154_46 (f := 6) rfl (q := 256) (n := 62) (kd := 15) ⟨by decide, rfl⟩ (by decide) rfl ?_
        refine x_top (fun z8 e_z8 => ?_)
        have g_z8 : (0 : Int) ≤ s0 256 6 ∧ s0 256 6 ≤ 40 := hG0 256 6
        refine x_bipush k154_49 (by decide +kernel) ?_
        refine x_ic_ne k154_51 (t := 58) rfl (by first | exact x_rbe e_z8 g_z8 rfl rfl | exact x_rb g_z8 rfl rfl | exact ⟨by omega, by omega⟩) ⟨by decide, by decide⟩ (fun c9 => ?_) (fun c9 => ?_)
        · skip
          refine x_A k154_58 (fun _ => rfl) ?_
          refine x_getR k154_59 (f := 7) rfl (q := 256) (n := 62) (kd := 15) ⟨by decide, rfl⟩ (q2 := 261) (by decide) rfl ?_
          refine x_A k154_62 (fun _ => rfl) ?_
          refine x_getI k154_63 (f := 6) rfl (q := 256) (n := 62) (kd := 15) ⟨by decide, rfl⟩ (by decide) rfl ?_
          rw [e_z8.symm]
          refine x_A k154_66 (fun _ => rfl) ?_
          refine x_iast k154_67 (q := 261) (n := 40) ⟨by decide, rfl⟩ (by decide) (by first | exact x_rbel e_z8 g_z8 rfl rfl | exact x_rbl g_z8 rfl rfl | exact ⟨by omega, by omega⟩) ?_
          refine x_nh (fun s10 e_s10 => ?_)
          have hG_s10 : GI s10 := by rw [e_s10]; exact hG0.up (show 0 ≤ a ∧ a ≤ 999 from (by first | exact x_rb b_a rfl rfl | exact ⟨by omega, by omega⟩))
          have f_s10 : FL [4103, 4416, 4480, 4544] s0 s10 := by rw [e_s10]; exact f0.up (show 4416 ∈ [4103, 4416, 4480, 4544] from by decide +kernel)
          have q11 : s10 256 6 = z8 := by rw [e_s10, x_up_q (by decide)]; exact e_z8.symm
          have q12 : s10 261 z8.toNat = a := by rw [e_s10]; exact x_up_same
          refine x_A k154_68 (fun _ => rfl) ?_
          refine x_getR k154_69 (f := 8) rfl (q := 256) (n := 62) (kd := 15) ⟨by decide, rfl⟩ (q2 := 262) (by decide) rfl ?_
          refine x_A k154_72 (fun _ => rfl) ?_
          refine x_getI k154_73 (f := 6) rfl (q := 256) (n := 62) (kd := 15) ⟨by decide, rfl⟩ (by decide) rfl ?_
          rw [q11]
          refine x_A k154_76 (fun _ => rfl) ?_
          refine x_iast k154_77 (q := 262) (n := 40) ⟨by decide, rfl⟩ (by decide) (by first | exact x_rbel e_z8 g_z8 rfl rfl | exact x_rbl g_z8 rfl rfl | exact ⟨by omega, by omega⟩) ?_
          refine x_nh (fun s13 e_s13 => ?_)
          have hG_s13 : GI s13 := by rw [e_s13]; exact hG_s10.up (show 0 ≤ b ∧ b ≤ 9 from (by first | exact x_rb b_b rfl rfl | exact ⟨by omega, by omega⟩))
          have f_s13 : FL [4103, 4416, 4480, 4544] s0 s13 := by rw [e_s13]; exact f_s10.up (show 4480 ∈ [4103, 4416, 4480, 4544] from by decide +kernel)
          have q14 : s13 256 6 = z8 := by rw [e_s13, x_up_q (by decide)]; exact q11
          have q15 : s13 261 z8.toNat = a := by rw [e_s13, x_up_q (by first | decide | omega)]; exact q12
          have q16 : s13 262 z8.toNat = b := by rw [e_s13]; exact x_up_same
          refine x_A k154_78 (fun _ => rfl) ?_
          refine x_getR k154_79 (f := 9) rfl (q := 256) (n := 62) (kd := 15) ⟨by decide, rfl⟩ (q2 := 263) (by decide) rfl ?_
          refine x_A k154_82 (fun _ => rfl) ?_
          refine x_getI k154_83 (f := 6) rfl (q := 256) (n := 62) (kd := 15) ⟨by decide, rfl⟩ (by decide) rfl ?_
          rw [q14]
          refine x_A k154_86 (fun _ => rfl) ?_
          refine x_iast k154_87 (q := 263) (n := 40) ⟨by decide, rfl⟩ (by decide) (by first | exact x_rbel e_z8 g_z8 rfl rfl | exact x_rbl g_z8 rfl rfl | exact ⟨by omega, by omega⟩) ?_
          refine x_nh (fun s17 e_s17 => ?_)
          have hG_s17 : GI s17 := by rw [e_s17]; exact hG_s13.up (show (-1) ≤ d ∧ d ≤ 39 from (by first | exact x_rb b_d rfl rfl | exact ⟨by omega, by omega⟩))
          have f_s17 : FL [4103, 4416, 4480, 4544] s0 s17 := by rw [e_s17]; exact f_s13.up (show 4544 ∈ [4103, 4416, 4480, 4544] from by decide +kernel)
          have q18 : s17 256 6 = z8 := by rw [e_s17, x_up_q (by decide)]; exact q14
          have q19 : s17 261 z8.toNat = a := by rw [e_s17, x_up_q (by first | decide | omega)]; exact q15
          have q20 : s17 262 z8.toNat = b := by rw [e_s17, x_up_q (by first | decide | omega)]; exact q16
          have q21 : s17 263 z8.toNat = d := by rw [e_s17]; exact x_up_same
          refine x_A k154_88 (fun _ => rfl) ?_
          refine x_A k154_89 (fun _ => rfl) ?_
          refine x_getI k154_90 (f := 6) rfl (q := 256) (n := 62) (kd := 15) ⟨by decide, rfl⟩ (by decide) rfl ?_
          rw [q18]
          refine x_A k154_93 (fun _ => rfl) ?_
          refine x_iadd k154_94 ?_
          refine x_top (fun z22 e_z22 => ?_)
          refine x_putI k154_95 (f := 6) rfl (q := 256) (n := 62) (kd := 15) ⟨by decide, rfl⟩ rfl rfl rfl ?_
          refine x_nh (fun s23 e_s23 => ?_)
          have hG_s23 : GI s23 := by rw [e_s23]; exact hG_s17.up (show 0 ≤ z22 ∧ z22 ≤ 40 from (by first | exact x_rbe e_z22 g_z22 rfl rfl | exact x_rb g_z22 rfl rfl | exact ⟨by omega, by omega⟩))
          have f_s23 : FL [4103, 4416, 4480, 4544] s0 s23 := by rw [e_s23]; exact f_s17.up (show 4103 ∈ [4103, 4416, 4480, 4544] from by decide +kernel)
          have q24 : s23 256 6 = z22 := by rw [e_s23]; exact x_up_same
          have q25 : s23 261 z8.toNat = a := by rw [e_s23, x_up_q (by first | decide | omega)]; exact q19
          have q26 : s23 262 z8.toNat = b := by rw [e_s23, x_up_q (by first | decide | omega)]; exact q20
          have q27 : s23 263 z8.toNat = d := by rw [e_s23, x_up_q (by first | decide | omega)]; exact q21
          refine x_A k154_98 (fun _ => rfl) ?_
          refine x_getI k154_99 (f := 6) rfl (q := 256) (n := 62) (kd := 15) ⟨by decide, rfl⟩ (by decide) rfl ?_
          rw [q24]
          refine x_A k154_102 (fun _ => rfl) ?_
          refine x_isub k154_103 ?_
          refine x_top (fun z28 e_z28 => ?_)
          exact x_iret k154_104 rfl ⟨hG_s23, f_s23, z28, rfl, (by first | exact x_rbe e_z28 g_z28 rfl rfl | exact x_rb g_z28 rfl rfl | exact ⟨by omega, by omega⟩)⟩
        · skip
          refine x_sipush k154_54 (by decide +kernel) ?_
          exact x_iret k154_57 rfl ⟨hG0, f0, (-1004), rfl, ⟨by decide, by decide⟩⟩
      · rw [e_z5]
        show xe none 154 38 [(0, .ref 256), (1, vi a), (2, vi b), (3, vi d)] [vi 0] s0 0 0 _
        refine x_if_ne k154_38 (t := 45) rfl ⟨by decide, by decide⟩ (fun c29 => by exfalso; omega) (fun c29 => ?_)
        refine x_sipush k154_41 (by decide +kernel) ?_
        exact x_iret k154_44 rfl ⟨hG0, f0, (-1002), rfl, ⟨by decide, by decide⟩⟩
    · rw [e_z2]
      show xe none 154 26 [(0, .ref 256), (1, vi a), (2, vi b), (3, vi d)] [vi 0] s0 0 0 _
      refine x_if_eq k154_26 (t := 41) rfl ⟨by decide, by decide⟩ (fun c30 => ?_) (fun c30 => by exfalso; omega)
      refine x_sipush k154_41 (by decide +kernel) ?_
      exact x_iret k154_44 rfl ⟨hG0, f0, (-1002), rfl, ⟨by decide, by decide⟩⟩
  · skip
    refine x_A k154_5 (fun _ => rfl) ?_
    refine x_A k154_6 (fun _ => rfl) ?_
    obtain ⟨z31, e_z31⟩ : ∃ z, z = s0 256 6 := ⟨_, rfl⟩
    have g_z31 : (0 : Int) ≤ s0 256 6 ∧ s0 256 6 ≤ 40 := hG0 256 6
    refine x_callV k154_7 (y := 151) (n := 1) (w0 := 0) (w1 := 1) (as := [vi d]) (rest := []) (by decide +kernel) (q := 256) (nq := 62) (kq := 15) ⟨by decide, rfl⟩ rfl rfl rfl rfl (xe_mono (C_X11_isPicture_256 s0 hG0 d (by first | exact x_rb b_d rfl rfl | exact ⟨by omega, by omega⟩)) ?_)
    rintro s33 v ⟨h_s33, z32, rfl, hz_z32⟩
    rw [h_s33]
    rcases hz_z32 with ⟨c_z32, e_z32⟩ | ⟨c_z32, e_z32⟩
    · rw [e_z32]
      show xe none 154 10 [(0, .ref 256), (1, vi a), (2, vi b), (3, vi d)] [vi 1] s0 0 0 _
      refine x_if_ne k154_10 (t := 17) rfl ⟨by decide, by decide⟩ (fun c34 => ?_) (fun c34 => by exfalso; omega)
      refine x_A k154_17 (fun _ => rfl) ?_
      refine x_i2l k154_18 (by first | exact x_rb b_a rfl rfl | exact ⟨by omega, by omega⟩) ?_
      refine x_lconst k154_19 (z := 0) (by decide +kernel) ?_
      refine x_ldc2 k154_20 (z := 999) rfl (by decide +kernel) ?_
      refine x_callS k154_23 (y := 136) (n := 3) (w0 := 0) (w1 := 6) (as := [vj a, vj 0, vj 999]) (rest := []) (by decide +kernel) rfl rfl rfl rfl (xe_mono (C_X11_in s0 hG0 a ⟨by omega, by omega⟩ 0 ⟨by omega, by omega⟩ 999 ⟨by omega, by omega⟩) ?_)
      rintro s36 v ⟨h_s36, z35, rfl, hz_z35⟩
      rw [h_s36]
      rcases hz_z35 with ⟨c_z35, e_z35⟩ | ⟨c_z35, e_z35⟩
      · rw [e_z35]
        show xe none 154 26 [(0, .ref 256), (1, vi a), (2, vi b), (3, vi d)] [vi 1] s0 0 0 _
        refine x_if_eq k154_26 (t := 41) rfl ⟨by decide, by decide⟩ (fun c37 => by exfalso; omega) (fun c37 => ?_)
        refine x_A k154_29 (fun _ => rfl) ?_
        refine x_i2l k154_30 (by first | exact x_rb b_b rfl rfl | exact ⟨by omega, by omega⟩) ?_
        refine x_lconst k154_31 (z := 0) (by decide +kernel) ?_
        refine x_ldc2 k154_32 (z := 9) rfl (by decide +kernel) ?_
        refine x_callS k154_35 (y := 136) (n := 3) (w0 := 0) (w1 := 6) (as := [vj b, vj 0, vj 9]) (rest := []) (by decide +kernel) rfl rfl rfl rfl (xe_mono (C_X11_in s0 hG0 b ⟨by omega, by omega⟩ 0 ⟨by omega, by omega⟩ 9 ⟨by omega, by omega⟩) ?_)
        rintro s39 v ⟨h_s39, z38, rfl, hz_z38⟩
        rw [h_s39]
        rcases hz_z38 with ⟨c_z38, e_z38⟩ | ⟨c_z38, e_z38⟩
        · rw [e_z38]
          show xe none 154 38 [(0, .ref 256), (1, vi a), (2, vi b), (3, vi d)] [vi 1] s0 0 0 _
          refine x_if_ne k154_38 (t := 45) rfl ⟨by decide, by decide⟩ (fun c40 => ?_) (fun c40 => by exfalso; omega)
          refine x_A k154_45 (fun _ => rfl) ?_
          refine x_getI k154_46 (f := 6) rfl (q := 256) (n := 62) (kd := 15) ⟨by decide, rfl⟩ (by decide) rfl ?_
          rw [e_z31.symm]
          refine x_bipush k154_49 (by decide +kernel) ?_
          refine x_ic_ne k154_51 (t := 58) rfl (by first | exact x_rbe e_z31 g_z31 rfl rfl | exact x_rb g_z31 rfl rfl | exact ⟨by omega, by omega⟩) ⟨by decide, by decide⟩ (fun c41 => ?_) (fun c41 => ?_)
          · skip
            refine x_A k154_58 (fun _ => rfl) ?_
            refine x_getR k154_59 (f := 7) rfl (q := 256) (n := 62) (kd := 15) ⟨by decide, rfl⟩ (q2 := 261) (by decide) rfl ?_
            refine x_A k154_62 (fun _ => rfl) ?_
            refine x_getI k154_63 (f := 6) rfl (q := 256) (n := 62) (kd := 15) ⟨by decide, rfl⟩ (by decide) rfl ?_
            rw [e_z31.symm]
            refine x_A k154_66 (fun _ => rfl) ?_
            refine x_iast k154_67 (q := 261) (n := 40) ⟨by decide, rfl⟩ (by decide) (by first | exact x_rbel e_z31 g_z31 rfl rfl | exact x_rbl g_z31 rfl rfl | exact ⟨by omega, by omega⟩) ?_
            refine x_nh (fun s42 e_s42 => ?_)
            have hG_s42 : GI s42 := by rw [e_s42]; exact hG0.up (show 0 ≤ a ∧ a ≤ 999 from (by first | exact x_rb b_a rfl rfl | exact ⟨by omega, by omega⟩))
            have f_s42 : FL [4103, 4416, 4480, 4544] s0 s42 := by rw [e_s42]; exact f0.up (show 4416 ∈ [4103, 4416, 4480, 4544] from by decide +kernel)
            have q43 : s42 256 6 = z31 := by rw [e_s42, x_up_q (by decide)]; exact e_z31.symm
            have q44 : s42 261 z31.toNat = a := by rw [e_s42]; exact x_up_same
            refine x_A k154_68 (fun _ => rfl) ?_
            refine x_getR k154_69 (f := 8) rfl (q := 256) (n := 62) (kd := 15) ⟨by decide, rfl⟩ (q2 := 262) (by decide) rfl ?_
            refine x_A k154_72 (fun _ => rfl) ?_
            refine x_getI k154_73 (f := 6) rfl (q := 256) (n := 62) (kd := 15) ⟨by decide, rfl⟩ (by decide) rfl ?_
            rw [q43]
            refine x_A k154_76 (fun _ => rfl) ?_
            refine x_iast k154_77 (q := 262) (n := 40) ⟨by decide, rfl⟩ (by decide) (by first | exact x_rbel e_z31 g_z31 rfl rfl | exact x_rbl g_z31 rfl rfl | exact ⟨by omega, by omega⟩) ?_
            refine x_nh (fun s45 e_s45 => ?_)
            have hG_s45 : GI s45 := by rw [e_s45]; exact hG_s42.up (show 0 ≤ b ∧ b ≤ 9 from (by first | exact x_rb b_b rfl rfl | exact ⟨by omega, by omega⟩))
            have f_s45 : FL [4103, 4416, 4480, 4544] s0 s45 := by rw [e_s45]; exact f_s42.up (show 4480 ∈ [4103, 4416, 4480, 4544] from by decide +kernel)
            have q46 : s45 256 6 = z31 := by rw [e_s45, x_up_q (by decide)]; exact q43
            have q47 : s45 261 z31.toNat = a := by rw [e_s45, x_up_q (by first | decide | omega)]; exact q44
            have q48 : s45 262 z31.toNat = b := by rw [e_s45]; exact x_up_same
            refine x_A k154_78 (fun _ => rfl) ?_
            refine x_getR k154_79 (f := 9) rfl (q := 256) (n := 62) (kd := 15) ⟨by decide, rfl⟩ (q2 := 263) (by decide) rfl ?_
            refine x_A k154_82 (fun _ => rfl) ?_
            refine x_getI k154_83 (f := 6) rfl (q := 256) (n := 62) (kd := 15) ⟨by decide, rfl⟩ (by decide) rfl ?_
            rw [q46]
            refine x_A k154_86 (fun _ => rfl) ?_
            refine x_iast k154_87 (q := 263) (n := 40) ⟨by decide, rfl⟩ (by decide) (by first | exact x_rbel e_z31 g_z31 rfl rfl | exact x_rbl g_z31 rfl rfl | exact ⟨by omega, by omega⟩) ?_
            refine x_nh (fun s49 e_s49 => ?_)
            have hG_s49 : GI s49 := by rw [e_s49]; exact hG_s45.up (show (-1) ≤ d ∧ d ≤ 39 from (by first | exact x_rb b_d rfl rfl | exact ⟨by omega, by omega⟩))
            have f_s49 : FL [4103, 4416, 4480, 4544] s0 s49 := by rw [e_s49]; exact f_s45.up (show 4544 ∈ [4103, 4416, 4480, 4544] from by decide +kernel)
            have q50 : s49 256 6 = z31 := by rw [e_s49, x_up_q (by decide)]; exact q46
            have q51 : s49 261 z31.toNat = a := by rw [e_s49, x_up_q (by first | decide | omega)]; exact q47
            have q52 : s49 262 z31.toNat = b := by rw [e_s49, x_up_q (by first | decide | omega)]; exact q48
            have q53 : s49 263 z31.toNat = d := by rw [e_s49]; exact x_up_same
            refine x_A k154_88 (fun _ => rfl) ?_
            refine x_A k154_89 (fun _ => rfl) ?_
            refine x_getI k154_90 (f := 6) rfl (q := 256) (n := 62) (kd := 15) ⟨by decide, rfl⟩ (by decide) rfl ?_
            rw [q50]
            refine x_A k154_93 (fun _ => rfl) ?_
            refine x_iadd k154_94 ?_
            refine x_top (fun z54 e_z54 => ?_)
            refine x_putI k154_95 (f := 6) rfl (q := 256) (n := 62) (kd := 15) ⟨by decide, rfl⟩ rfl rfl rfl ?_
            refine x_nh (fun s55 e_s55 => ?_)
            have hG_s55 : GI s55 := by rw [e_s55]; exact hG_s49.up (show 0 ≤ z54 ∧ z54 ≤ 40 from (by first | exact x_rbe e_z54 g_z54 rfl rfl | exact x_rb g_z54 rfl rfl | exact ⟨by omega, by omega⟩))
            have f_s55 : FL [4103, 4416, 4480, 4544] s0 s55 := by rw [e_s55]; exact f_s49.up (show 4103 ∈ [4103, 4416, 4480, 4544] from by decide +kernel)
            have q56 : s55 256 6 = z54 := by rw [e_s55]; exact x_up_same
            have q57 : s55 261 z31.toNat = a := by rw [e_s55, x_up_q (by first | decide | omega)]; exact q51
            have q58 : s55 262 z31.toNat = b := by rw [e_s55, x_up_q (by first | decide | omega)]; exact q52
            have q59 : s55 263 z31.toNat = d := by rw [e_s55, x_up_q (by first | decide | omega)]; exact q53
            refine x_A k154_98 (fun _ => rfl) ?_
            refine x_getI k154_99 (f := 6) rfl (q := 256) (n := 62) (kd := 15) ⟨by decide, rfl⟩ (by decide) rfl ?_
            rw [q56]
            refine x_A k154_102 (fun _ => rfl) ?_
            refine x_isub k154_103 ?_
            refine x_top (fun z60 e_z60 => ?_)
            exact x_iret k154_104 rfl ⟨hG_s55, f_s55, z60, rfl, (by first | exact x_rbe e_z60 g_z60 rfl rfl | exact x_rb g_z60 rfl rfl | exact ⟨by omega, by omega⟩)⟩
          · skip
            refine x_sipush k154_54 (by decide +kernel) ?_
            exact x_iret k154_57 rfl ⟨hG0, f0, (-1004), rfl, ⟨by decide, by decide⟩⟩
        · rw [e_z38]
          show xe none 154 38 [(0, .ref 256), (1, vi a), (2, vi b), (3, vi d)] [vi 0] s0 0 0 _
          refine x_if_ne k154_38 (t := 45) rfl ⟨by decide, by decide⟩ (fun c61 => by exfalso; omega) (fun c61 => ?_)
          refine x_sipush k154_41 (by decide +kernel) ?_
          exact x_iret k154_44 rfl ⟨hG0, f0, (-1002), rfl, ⟨by decide, by decide⟩⟩
      · rw [e_z35]
        show xe none 154 26 [(0, .ref 256), (1, vi a), (2, vi b), (3, vi d)] [vi 0] s0 0 0 _
        refine x_if_eq k154_26 (t := 41) rfl ⟨by decide, by decide⟩ (fun c62 => ?_) (fun c62 => by exfalso; omega)
        refine x_sipush k154_41 (by decide +kernel) ?_
        exact x_iret k154_44 rfl ⟨hG0, f0, (-1002), rfl, ⟨by decide, by decide⟩⟩
    · rw [e_z32]
      show xe none 154 10 [(0, .ref 256), (1, vi a), (2, vi b), (3, vi d)] [vi 0] s0 0 0 _
      refine x_if_ne k154_10 (t := 17) rfl ⟨by decide, by decide⟩ (fun c63 => by exfalso; omega) (fun c63 => ?_)
      refine x_sipush k154_13 (by decide +kernel) ?_
      exact x_iret k154_16 rfl ⟨hG0, f0, (-1001), rfl, ⟨by decide, by decide⟩⟩
theorem C_X6_byteAt_177 (s0 : xS) (hG0 : GI s0) (a : Int) (b_a : (-2147483648) ≤ a ∧ a ≤ 2147483647) : xe none 49 0 (lv_args 0 [.ref 177, vi a]) [] s0 0 0 (fun s' v => s' = s0 ∧ ∃ z, v = some (vi z) ∧ (z = -1 ∨ (0 ≤ z ∧ 0 ≤ a ∧ a < s0 177 1)) ∧ -1 ≤ z ∧ z ≤ 255) := by
  have f0 : FL [] s0 s0 := FL.rf
  show xe none 49 0 [(0, .ref 177), (1, vi a)] [] s0 0 0 _
  refine x_A k49_0 (fun _ => rfl) ?_
  refine x_if_lt k49_1 (t := 21) rfl (by first | exact x_rb b_a rfl rfl | exact ⟨by omega, by omega⟩) (fun c1 => ?_) (fun c1 => ?_)
  · skip
    refine x_A k49_21 (fun _ => rfl) ?_
    exact x_iret k49_22 rfl ⟨rfl, (-1), rfl, by omega⟩
  · skip
    refine x_A k49_4 (fun _ => rfl) ?_
    refine x_A k49_5 (fun _ => rfl) ?_
    refine x_getI k49_6 (f := 1) rfl (q := 177) (n := 7) (kd := 7) ⟨by decide, rfl⟩ (by decide) rfl ?_
    refine x_top (fun z2 e_z2 => ?_)
    have g_z2 : (0 : Int) ≤ s0 177 1 ∧ s0 177 1 ≤ 160 := hG0 177 1
    refine x_ic_ge k49_9 (t := 21) rfl (by first | exact x_rb b_a rfl rfl | exact ⟨by omega, by omega⟩) (by first | exact x_rbe e_z2 g_z2 rfl rfl | exact x_rb g_z2 rfl rfl | exact ⟨by omega, by omega⟩) (fun c3 => ?_) (fun c3 => ?_)
    · skip
      refine x_A k49_21 (fun _ => rfl) ?_
      exact x_iret k49_22 rfl ⟨rfl, (-1), rfl, by omega⟩
    · skip
      refine x_A k49_12 (fun _ => rfl) ?_
      refine x_getR k49_13 (f := 0) rfl (q := 177) (n := 7) (kd := 7) ⟨by decide, rfl⟩ (q2 := 178) (by decide) rfl ?_
      refine x_A k49_16 (fun _ => rfl) ?_
      refine x_iald k49_17 (q := 178) (n := 160) ⟨by decide, rfl⟩ (by decide) (by first | exact x_rbl b_a rfl rfl | exact ⟨by omega, by omega⟩) ?_
      refine x_top (fun z4 e_z4 => ?_)
      have g_z4 : (0 : Int) ≤ s0 178 a.toNat ∧ s0 178 a.toNat ≤ 255 := hG0 178 a.toNat
      refine x_goto k49_18 (t := 22) rfl ?_
      exact x_iret k49_22 rfl ⟨rfl, z4, rfl, by omega⟩
theorem C_X6_kindOf (s0 : xS) (hG0 : GI s0) (a : Int) (b_a : (-2147483648) ≤ a ∧ a ≤ 2147483647) : xe none 50 0 (lv_args 0 [vi a]) [] s0 0 0 (fun s' v => s' = s0 ∧ ∃ z, v = some (vi z) ∧ ((a = -1 ∧ z = 0) ∨ (a ≠ -1 ∧ 1 ≤ z)) ∧ 0 ≤ z ∧ z ≤ 3) := by
  have f0 : FL [] s0 s0 := FL.rf
  show xe none 50 0 [(0, vi a)] [] s0 0 0 _
  refine x_A k50_0 (fun _ => rfl) ?_
  refine x_A k50_1 (fun _ => rfl) ?_
  refine x_ic_ne k50_2 (t := 7) rfl (by first | exact x_rb b_a rfl rfl | exact ⟨by omega, by omega⟩) ⟨by decide, by decide⟩ (fun c1 => ?_) (fun c1 => ?_)
  · skip
    refine x_A k50_7 (fun _ => rfl) ?_
    refine x_bipush k50_8 (by decide +kernel) ?_
    refine x_ic_lt k50_10 (t := 21) rfl (by first | exact x_rb b_a rfl rfl | exact ⟨by omega, by omega⟩) ⟨by decide, by decide⟩ (fun c2 => ?_) (fun c2 => ?_)
    · skip
      refine x_A k50_21 (fun _ => rfl) ?_
      refine x_bipush k50_22 (by decide +kernel) ?_
      refine x_ic_lt k50_24 (t := 35) rfl (by first | exact x_rb b_a rfl rfl | exact ⟨by omega, by omega⟩) ⟨by decide, by decide⟩ (fun c3 => ?_) (fun c3 => ?_)
      · skip
        refine x_A k50_35 (fun _ => rfl) ?_
        exact x_iret k50_36 rfl ⟨rfl, 3, rfl, by omega⟩
      · skip
        refine x_A k50_27 (fun _ => rfl) ?_
        refine x_bipush k50_28 (by decide +kernel) ?_
        refine x_ic_gt k50_30 (t := 35) rfl (by first | exact x_rb b_a rfl rfl | exact ⟨by omega, by omega⟩) ⟨by decide, by decide⟩ (fun c4 => ?_) (fun c4 => ?_)
        · skip
          refine x_A k50_35 (fun _ => rfl) ?_
          exact x_iret k50_36 rfl ⟨rfl, 3, rfl, by omega⟩
        · skip
          refine x_A k50_33 (fun _ => rfl) ?_
          exact x_iret k50_34 rfl ⟨rfl, 2, rfl, by omega⟩
    · skip
      refine x_A k50_13 (fun _ => rfl) ?_
      refine x_bipush k50_14 (by decide +kernel) ?_
      refine x_ic_gt k50_16 (t := 21) rfl (by first | exact x_rb b_a rfl rfl | exact ⟨by omega, by omega⟩) ⟨by decide, by decide⟩ (fun c5 => ?_) (fun c5 => ?_)
      · skip
        refine x_A k50_21 (fun _ => rfl) ?_
        refine x_bipush k50_22 (by decide +kernel) ?_
        refine x_ic_lt k50_24 (t := 35) rfl (by first | exact x_rb b_a rfl rfl | exact ⟨by omega, by omega⟩) ⟨by decide, by decide⟩ (fun c6 => by exfalso; omega) (fun c6 => ?_)
        refine x_A k50_27 (fun _ => rfl) ?_
        refine x_bipush k50_28 (by decide +kernel) ?_
        refine x_ic_gt k50_30 (t := 35) rfl (by first | exact x_rb b_a rfl rfl | exact ⟨by omega, by omega⟩) ⟨by decide, by decide⟩ (fun c7 => ?_) (fun c7 => by exfalso; omega)
        refine x_A k50_35 (fun _ => rfl) ?_
        exact x_iret k50_36 rfl ⟨rfl, 3, rfl, by omega⟩
      · skip
        refine x_A k50_19 (fun _ => rfl) ?_
        exact x_iret k50_20 rfl ⟨rfl, 1, rfl, by omega⟩
  · skip
    refine x_A k50_5 (fun _ => rfl) ?_
    exact x_iret k50_6 rfl ⟨rfl, 0, rfl, by omega⟩
theorem C_X6_fail_177 (s0 : xS) (hG0 : GI s0) (a : Int) (b_a : 1 ≤ a ∧ a ≤ 5) (b : Int) (b_b : (-2147483648) ≤ b ∧ b ≤ 2147483647) : xe none 52 0 (lv_args 0 [.ref 177, vi a, vi b]) [] s0 0 0 (fun s' v => GI s' ∧ FL [1222, 1223] s0 s' ∧ v = none ∧ (s' 177 5 ≠ 0)) := by
  have f0 : FL [1222, 1223] s0 s0 := FL.rf
  show xe none 52 0 [(0, .ref 177), (1, vi a), (2, vi b)] [] s0 0 0 _
  refine x_A k52_0 (fun _ => rfl) ?_
  refine x_getI k52_1 (f := 5) rfl (q := 177) (n := 7) (kd := 7) ⟨by decide, rfl⟩ (by decide) rfl ?_
  refine x_top (fun z1 e_z1 => ?_)
  have g_z1 : (0 : Int) ≤ s0 177 5 ∧ s0 177 5 ≤ 5 := hG0 177 5
  refine x_if_eq k52_4 (t := 8) rfl (by first | exact x_rbe e_z1 g_z1 rfl rfl | exact x_rb g_z1 rfl rfl | exact ⟨by omega, by omega⟩) (fun c2 => ?_) (fun c2 => ?_)
  · skip
    refine x_A k52_8 (fun _ => rfl) ?_
    refine x_A k52_9 (fun _ => rfl) ?_
    refine x_putI k52_10 (f := 5) rfl (q := 177) (n := 7) (kd := 7) ⟨by decide, rfl⟩ rfl rfl rfl ?_
    refine x_nh (fun s3 e_s3 => ?_)
    have hG_s3 : GI s3 := by rw [e_s3]; exact hG0.up (show 0 ≤ a ∧ a ≤ 5 from (by first | exact x_rb b_a rfl rfl | exact ⟨by omega, by omega⟩))
    have f_s3 : FL [1222, 1223] s0 s3 := by rw [e_s3]; exact f0.up (show 1222 ∈ [1222, 1223] from by decide +kernel)
    have q4 : s3 177 5 = a := by rw [e_s3]; exact x_up_same
    refine x_A k52_13 (fun _ => rfl) ?_
    refine x_A k52_14 (fun _ => rfl) ?_
    refine x_putI k52_15 (f := 6) rfl (q := 177) (n := 7) (kd := 7) ⟨by decide, rfl⟩ rfl rfl rfl ?_
    refine x_nh (fun s5 e_s5 => ?_)
    have hG_s5 : GI s5 := by rw [e_s5]; exact hG_s3.up (show (-2147483648) ≤ b ∧ b ≤ 2147483647 from (by first | exact x_rb b_b rfl rfl | exact ⟨by omega, by omega⟩))
    have f_s5 : FL [1222, 1223] s0 s5 := by rw [e_s5]; exact f_s3.up (show 1223 ∈ [1222, 1223] from by decide +kernel)
    have q6 : s5 177 5 = a := by rw [e_s5, x_up_i (by decide)]; exact q4
    have q7 : s5 177 6 = b := by rw [e_s5]; exact x_up_same
    exact x_vret k52_18 rfl ⟨hG_s5, f_s5, rfl, by omega⟩
  · skip
    exact x_vret k52_7 rfl ⟨hG0, f0, rfl, by omega⟩
theorem C_X6_add_177 (s0 : xS) (hG0 : GI s0) (a : Int) (b_a : 0 ≤ a ∧ a ≤ 255) : xe none 47 0 (lv_args 0 [.ref 177, vi a]) [] s0 0 0 (fun s' v => GI s' ∧ FL [1218, 1280] s0 s' ∧ v = none) := by
  have f0 : FL [1218, 1280] s0 s0 := FL.rf
  show xe none 47 0 [(0, .ref 177), (1, vi a)] [] s0 0 0 _
  refine x_A k47_0 (fun _ => rfl) ?_
  refine x_getI k47_1 (f := 1) rfl (q := 177) (n := 7) (kd := 7) ⟨by decide, rfl⟩ (by decide) rfl ?_
  refine x_top (fun z1 e_z1 => ?_)
  have g_z1 : (0 : Int) ≤ s0 177 1 ∧ s0 177 1 ≤ 160 := hG0 177 1
  refine x_sipush k47_4 (by decide +kernel) ?_
  refine x_ic_lt k47_7 (t := 11) rfl (by first | exact x_rbe e_z1 g_z1 rfl rfl | exact x_rb g_z1 rfl rfl | exact ⟨by omega, by omega⟩) ⟨by decide, by decide⟩ (fun c2 => ?_) (fun c2 => ?_)
  · skip
    refine x_A k47_11 (fun _ => rfl) ?_
    refine x_getR k47_12 (f := 0) rfl (q := 177) (n := 7) (kd := 7) ⟨by decide, rfl⟩ (q2 := 178) (by decide) rfl ?_
    refine x_A k47_15 (fun _ => rfl) ?_
    refine x_getI k47_16 (f := 1) rfl (q := 177) (n := 7) (kd := 7) ⟨by decide, rfl⟩ (by decide) rfl ?_
    rw [e_z1.symm]
    refine x_A k47_19 (fun _ => rfl) ?_
    refine x_iast k47_20 (q := 178) (n := 160) ⟨by decide, rfl⟩ (by decide) (by first | exact x_rbel e_z1 g_z1 rfl rfl | exact x_rbl g_z1 rfl rfl | exact ⟨by omega, by omega⟩) ?_
    refine x_nh (fun s3 e_s3 => ?_)
    have hG_s3 : GI s3 := by rw [e_s3]; exact hG0.up (show 0 ≤ a ∧ a ≤ 255 from (by first | exact x_rb b_a rfl rfl | exact ⟨by omega, by omega⟩))
    have f_s3 : FL [1218, 1280] s0 s3 := by rw [e_s3]; exact f0.up (show 1280 ∈ [1218, 1280] from by decide +kernel)
    have q4 : s3 177 1 = z1 := by rw [e_s3, x_up_q (by decide)]; exact e_z1.symm
    have q5 : s3 178 z1.toNat = a := by rw [e_s3]; exact x_up_same
    refine x_A k47_21 (fun _ => rfl) ?_
    refine x_A k47_22 (fun _ => rfl) ?_
    refine x_getI k47_23 (f := 1) rfl (q := 177) (n := 7) (kd := 7) ⟨by decide, rfl⟩ (by decide) rfl ?_
    rw [q4]
    refine x_A k47_26 (fun _ => rfl) ?_
    refine x_iadd k47_27 ?_
    refine x_top (fun z6 e_z6 => ?_)
    refine x_putI k47_28 (f := 1) rfl (q := 177) (n := 7) (kd := 7) ⟨by decide, rfl⟩ rfl rfl rfl ?_
    refine x_nh (fun s7 e_s7 => ?_)
    have hG_s7 : GI s7 := by rw [e_s7]; exact hG_s3.up (show 0 ≤ z6 ∧ z6 ≤ 160 from (by first | exact x_rbe e_z6 g_z6 rfl rfl | exact x_rb g_z6 rfl rfl | exact ⟨by omega, by omega⟩))
    have f_s7 : FL [1218, 1280] s0 s7 := by rw [e_s7]; exact f_s3.up (show 1218 ∈ [1218, 1280] from by decide +kernel)
    have q8 : s7 177 1 = z6 := by rw [e_s7]; exact x_up_same
    have q9 : s7 178 z1.toNat = a := by rw [e_s7, x_up_q (by first | decide | omega)]; exact q5
    exact x_vret k47_31 rfl ⟨hG_s7, f_s7, rfl⟩
  · skip
    exact x_vret k47_10 rfl ⟨hG0, f0, rfl⟩
theorem C_J13_bitCount_95d88 (s0 : xS) (hG0 : GI s0) (a : Int) (b_a : in64 a) : xe none 219 0 (lv_args 0 [vj a]) [] s0 0 0 (fun s' v => GI s' ∧ FL [] s0 s' ∧ ∃ z, v = some (vi z) ∧ (0 ≤ z ∧ z ≤ 127)) := by
  have f0 : FL [] s0 s0 := FL.rf
  show xe none 219 0 [(0, vj a)] [] s0 0 0 _
  refine x_A k219_0 (fun _ => rfl) ?_
  refine x_A k219_1 (fun _ => rfl) ?_
  refine x_A k219_2 (fun _ => rfl) ?_
  refine x_lushr_any k219_3 (fun z1 b_z1 => ?_)
  refine x_ldc2 k219_4 (z := 6148914691236517205) rfl (by decide +kernel) ?_
  refine x_land_mask k219_7 ⟨by omega, by omega⟩ (fun z2 g_z2 => ?_)
  refine x_lsub_any k219_8 (fun z3 b_z3 => ?_)
  refine x_lstore_n k219_9 (ls' := [(0, vj z3)]) (by decide) rfl ?_
  refine x_A k219_10 (fun _ => rfl) ?_
  refine x_ldc2 k219_11 (z := 3689348814741910323) rfl (by decide +kernel) ?_
  refine x_land_mask k219_14 ⟨by omega, by omega⟩ (fun z4 g_z4 => ?_)
  refine x_A k219_15 (fun _ => rfl) ?_
  refine x_A k219_16 (fun _ => rfl) ?_
  refine x_lushr_any k219_17 (fun z5 b_z5 => ?_)
  refine x_ldc2 k219_18 (z := 3689348814741910323) rfl (by decide +kernel) ?_
  refine x_land_mask k219_21 ⟨by omega, by omega⟩ (fun z6 g_z6 => ?_)
  refine x_ladd_any k219_22 (fun z7 b_z7 => ?_)
  refine x_lstore_n k219_23 (ls' := [(0, vj z7)]) (by decide) rfl ?_
  refine x_A k219_24 (fun _ => rfl) ?_
  refine x_A k219_25 (fun _ => rfl) ?_
  refine x_A k219_26 (fun _ => rfl) ?_
  refine x_lushr_any k219_27 (fun z8 b_z8 => ?_)
  refine x_ladd_any k219_28 (fun z9 b_z9 => ?_)
  refine x_ldc2 k219_29 (z := 1085102592571150095) rfl (by decide +kernel) ?_
  refine x_land_mask k219_32 ⟨by omega, by omega⟩ (fun z10 g_z10 => ?_)
  refine x_lstore_n k219_33 (ls' := [(0, vj z10)]) (by decide) rfl ?_
  refine x_A k219_34 (fun _ => rfl) ?_
  refine x_A k219_35 (fun _ => rfl) ?_
  refine x_bipush k219_36 (by decide +kernel) ?_
  refine x_lushr_any k219_38 (fun z11 b_z11 => ?_)
  refine x_ladd_any k219_39 (fun z12 b_z12 => ?_)
  refine x_lstore_n k219_40 (ls' := [(0, vj z12)]) (by decide) rfl ?_
  refine x_A k219_41 (fun _ => rfl) ?_
  refine x_A k219_42 (fun _ => rfl) ?_
  refine x_bipush k219_43 (by decide +kernel) ?_
  refine x_lushr_any k219_45 (fun z13 b_z13 => ?_)
  refine x_ladd_any k219_46 (fun z14 b_z14 => ?_)
  refine x_lstore_n k219_47 (ls' := [(0, vj z14)]) (by decide) rfl ?_
  refine x_A k219_48 (fun _ => rfl) ?_
  refine x_A k219_49 (fun _ => rfl) ?_
  refine x_bipush k219_50 (by decide +kernel) ?_
  refine x_lushr_any k219_52 (fun z15 b_z15 => ?_)
  refine x_ladd_any k219_53 (fun z16 b_z16 => ?_)
  refine x_lstore_n k219_54 (ls' := [(0, vj z16)]) (by decide) rfl ?_
  refine x_A k219_55 (fun _ => rfl) ?_
  refine x_l2i_any k219_56 (fun z17 g_z17 => ?_)
  unfold in32 at g_z17
  refine x_bipush k219_57 (by decide +kernel) ?_
  refine x_and_mask k219_59 ⟨by omega, by omega⟩ (fun z18 g_z18 => ?_)
  exact x_iret k219_60 rfl ⟨hG0, f0, z18, rfl, (by first | exact x_rbe e_z18 g_z18 rfl rfl | exact x_rb g_z18 rfl rfl | exact ⟨by omega, by omega⟩)⟩
theorem C_X8_shows_243 (s0 : xS) (hG0 : GI s0) (a : Int) (b_a : 0 ≤ a ∧ a ≤ 39) (b : Int) (b_b : (-2147483648) ≤ b ∧ b ≤ 2147483647) : xe none 78 0 (lv_args 0 [.ref 243, vi a, vi b]) [] s0 0 0 (fun s' v => GI s' ∧ FL [] s0 s' ∧ ∃ z, v = some (vi z) ∧ (0 ≤ z ∧ z ≤ 1)) := by
  have f0 : FL [] s0 s0 := FL.rf
  show xe none 78 0 [(0, .ref 243), (1, vi a), (2, vi b)] [] s0 0 0 _
  refine x_A k78_0 (fun _ => rfl) ?_
  refine x_getR k78_1 (f := 10) rfl (q := 243) (n := 13) (kd := 13) ⟨by decide, rfl⟩ (q2 := 255) (by decide) rfl ?_
  refine x_A k78_4 (fun _ => rfl) ?_
  refine x_lald k78_5 (q := 255) (n := 40) ⟨by decide, rfl⟩ (by decide) (by first | exact x_rbl b_a rfl rfl | exact ⟨by omega, by omega⟩) ?_
  refine x_topL (fun z1 e_z1 => ?_)
  have b_z1 : in64 z1 := by rw [e_z1]; exact hG0 255 a.toNat
  refine x_A k78_6 (fun _ => rfl) ?_
  refine x_lushr_any k78_7 (fun z2 b_z2 => ?_)
  refine x_lconst k78_8 (z := 1) (by decide +kernel) ?_
  refine x_land_mask k78_9 ⟨by omega, by omega⟩ (fun z3 g_z3 => ?_)
  refine x_lconst k78_10 (z := 0) (by decide +kernel) ?_
  refine x_lc_eq k78_11 k78_12 (t := 19) rfl ⟨by omega, by omega⟩ ⟨by omega, by omega⟩ (fun c4 => ?_) (fun c4 => ?_)
  · skip
    refine x_A k78_19 (fun _ => rfl) ?_
    exact x_zret k78_20 rfl ⟨by omega, by omega⟩ ⟨hG0, f0, 0, rfl, ⟨by decide, by decide⟩⟩
  · skip
    refine x_A k78_15 (fun _ => rfl) ?_
    refine x_goto k78_16 (t := 20) rfl ?_
    exact x_zret k78_20 rfl ⟨by omega, by omega⟩ ⟨hG0, f0, 1, rfl, ⟨by decide, by decide⟩⟩
theorem C_X11_fails_256 (s0 : xS) (hG0 : GI s0) (a : Int) (b_a : (-2147483648) ≤ a ∧ a ≤ 2147483647) (b : Int) (b_b : (-2147483648) ≤ b ∧ b ≤ 2147483647) : xe none 177 0 (lv_args 0 [.ref 256, vi a, vi b]) [] s0 0 0 (fun s' v => GI s' ∧ FL [4132] s0 s' ∧ ∃ z, v = some (vi z) ∧ ((-2147483648) ≤ z ∧ z ≤ 2147483647) ∧ (z = a)) := by
  have f0 : FL [4132] s0 s0 := FL.rf
  show xe none 177 0 [(0, .ref 256), (1, vi a), (2, vi b)] [] s0 0 0 _
  refine x_A k177_0 (fun _ => rfl) ?_
  refine x_A k177_1 (fun _ => rfl) ?_
  refine x_putI k177_2 (f := 35) rfl (q := 256) (n := 62) (kd := 15) ⟨by decide, rfl⟩ rfl rfl rfl ?_
  refine x_nh (fun s1 e_s1 => ?_)
  have hG_s1 : GI s1 := by rw [e_s1]; exact hG0.up (show (-2147483648) ≤ b ∧ b ≤ 2147483647 from (by first | exact x_rb b_b rfl rfl | exact ⟨by omega, by omega⟩))
  have f_s1 : FL [4132] s0 s1 := by rw [e_s1]; exact f0.up (show 4132 ∈ [4132] from by decide +kernel)
  have q2 : s1 256 35 = b := by rw [e_s1]; exact x_up_same
  refine x_A k177_5 (fun _ => rfl) ?_
  exact x_iret k177_6 rfl ⟨hG_s1, f_s1, a, rfl, (by first | exact x_rb b_a rfl rfl | exact ⟨by omega, by omega⟩), by omega⟩
theorem C_X1_hasKey (s0 : xS) (hG0 : GI s0) (a : Int) (b_a : (-2147483648) ≤ a ∧ a ≤ 2147483647) (b : Int) (b_b : (-2147483648) ≤ b ∧ b ≤ 2147483647) : xe none 19 0 (lv_args 0 [vi a, vi b]) [] s0 0 0 (fun s' v => GI s' ∧ FL [] s0 s' ∧ ∃ z, v = some (vi z) ∧ (0 ≤ z ∧ z ≤ 1)) := by
  have f0 : FL [] s0 s0 := FL.rf
  show xe none 19 0 [(0, vi a), (1, vi b)] [] s0 0 0 _
  refine x_A k19_0 (fun _ => rfl) ?_
  refine x_A k19_1 (fun _ => rfl) ?_
  refine x_iushr_any k19_2 (fun z1 g_z1 => ?_)
  unfold in32 at g_z1
  refine x_A k19_3 (fun _ => rfl) ?_
  refine x_and_mask k19_4 ⟨by omega, by omega⟩ (fun z2 g_z2 => ?_)
  refine x_if_eq k19_5 (t := 12) rfl (by first | exact x_rbe e_z2 g_z2 rfl rfl | exact x_rb g_z2 rfl rfl | exact ⟨by omega, by omega⟩) (fun c3 => ?_) (fun c3 => ?_)
  · skip
    refine x_A k19_12 (fun _ => rfl) ?_
    exact x_zret k19_13 rfl ⟨by omega, by omega⟩ ⟨hG0, f0, 0, rfl, ⟨by decide, by decide⟩⟩
  · skip
    refine x_A k19_8 (fun _ => rfl) ?_
    refine x_goto k19_9 (t := 13) rfl ?_
    exact x_zret k19_13 rfl ⟨by omega, by omega⟩ ⟨hG0, f0, 1, rfl, ⟨by decide, by decide⟩⟩
theorem C_X10_missed (s0 : xS) (hG0 : GI s0) (a : Int) (b_a : in64 a) (b : Int) (b_b : in64 b) : xe none 129 0 (lv_args 0 [vj a, vj b]) [] s0 0 0 (fun s' v => GI s' ∧ FL [] s0 s' ∧ ∃ z, v = some (vi z) ∧ ((-2147483648) ≤ z ∧ z ≤ 2147483647)) := by
  have f0 : FL [] s0 s0 := FL.rf
  show xe none 129 0 [(0, vj a), (2, vj b)] [] s0 0 0 _
  refine x_A k129_0 (fun _ => rfl) ?_
  refine x_A k129_1 (fun _ => rfl) ?_
  refine x_land_any k129_2 (fun z1 b_z1 => ?_)
  refine x_callS k129_3 (y := 219) (n := 1) (w0 := 0) (w1 := 2) (as := [vj z1]) (rest := []) (by decide +kernel) rfl rfl rfl rfl (xe_mono (C_J13_bitCount_95d88 s0 hG0 z1 b_z1) ?_)
  rintro s3 v ⟨-, t_s3, z2, rfl, g_z2⟩
  rw [t_s3.nil]
  show xe none 129 6 [(0, vj a), (2, vj b)] [vi z2] s0 0 0 _
  refine x_istore k129_6 (ls' := [(4, vi z2), (0, vj a), (2, vj b)]) (by decide) rfl ?_
  refine x_A k129_8 (fun _ => rfl) ?_
  refine x_if_ne k129_10 (t := 15) rfl (by first | exact x_rbe e_z2 g_z2 rfl rfl | exact x_rb g_z2 rfl rfl | exact ⟨by omega, by omega⟩) (fun c4 => ?_) (fun c4 => ?_)
  · skip
    refine x_A k129_15 (fun _ => rfl) ?_
    refine x_A k129_16 (fun _ => rfl) ?_
    refine x_ldc2 k129_17 (z := (-1)) rfl (by decide +kernel) ?_
    refine x_lxor_any k129_20 (fun z5 b_z5 => ?_)
    refine x_land_any k129_21 (fun z6 b_z6 => ?_)
    refine x_callS k129_22 (y := 219) (n := 1) (w0 := 0) (w1 := 2) (as := [vj z6]) (rest := []) (by decide +kernel) rfl rfl rfl rfl (xe_mono (C_J13_bitCount_95d88 s0 hG0 z6 b_z6) ?_)
    rintro s8 v ⟨-, t_s8, z7, rfl, g_z7⟩
    rw [t_s8.nil]
    show xe none 129 25 [(4, vi z2), (0, vj a), (2, vj b)] [vi z7] s0 0 0 _
    refine x_A k129_25 (fun _ => rfl) ?_
    refine x_A k129_26 (fun _ => rfl) ?_
    refine x_ldc2 k129_27 (z := (-1)) rfl (by decide +kernel) ?_
    refine x_lxor_any k129_30 (fun z9 b_z9 => ?_)
    refine x_land_any k129_31 (fun z10 b_z10 => ?_)
    refine x_callS k129_32 (y := 219) (n := 1) (w0 := 1) (w1 := 2) (as := [vj z10]) (rest := [vi z7]) (by decide +kernel) rfl rfl rfl rfl (xe_mono (C_J13_bitCount_95d88 s0 hG0 z10 b_z10) ?_)
    rintro s12 v ⟨-, t_s12, z11, rfl, g_z11⟩
    rw [t_s12.nil]
    show xe none 129 35 [(4, vi z2), (0, vj a), (2, vj b)] [vi z11, vi z7] s0 0 0 _
    refine x_imul k129_35 ?_
    refine x_topW (fun z13 g_z13 => ?_)
    unfold in32 at g_z13
    refine x_A k129_36 (fun _ => rfl) ?_
    refine x_idiv_any k129_38 ⟨by omega, by omega⟩ (by omega) (fun z14 g_z14 => ?_)
    unfold in32 at g_z14
    exact x_iret k129_39 rfl ⟨hG0, f0, z14, rfl, (by first | exact x_rbe e_z14 g_z14 rfl rfl | exact x_rb g_z14 rfl rfl | exact ⟨by omega, by omega⟩)⟩
  · skip
    refine x_A k129_13 (fun _ => rfl) ?_
    exact x_iret k129_14 rfl ⟨hG0, f0, (-1), rfl, ⟨by decide, by decide⟩⟩
theorem C_X10_isBeyondChance (s0 : xS) (hG0 : GI s0) (a : Int) (b_a : in64 a) (b : Int) (b_b : in64 b) (d : Int) (b_d : (-2147483648) ≤ d ∧ d ≤ 2147483647) : xe none 130 0 (lv_args 0 [vj a, vj b, vi d]) [] s0 0 0 (fun s' v => GI s' ∧ FL [] s0 s' ∧ ∃ z, v = some (vi z) ∧ (0 ≤ z ∧ z ≤ 1)) := by
  have f0 : FL [] s0 s0 := FL.rf
  show xe none 130 0 [(0, vj a), (2, vj b), (4, vi d)] [] s0 0 0 _
  refine x_A k130_0 (fun _ => rfl) ?_
  refine x_A k130_1 (fun _ => rfl) ?_
  refine x_land_any k130_2 (fun z1 b_z1 => ?_)
  refine x_callS k130_3 (y := 219) (n := 1) (w0 := 0) (w1 := 2) (as := [vj z1]) (rest := []) (by decide +kernel) rfl rfl rfl rfl (xe_mono (C_J13_bitCount_95d88 s0 hG0 z1 b_z1) ?_)
  rintro s3 v ⟨-, t_s3, z2, rfl, g_z2⟩
  rw [t_s3.nil]
  show xe none 130 6 [(0, vj a), (2, vj b), (4, vi d)] [vi z2] s0 0 0 _
  refine x_A k130_6 (fun _ => rfl) ?_
  refine x_imul k130_8 ?_
  refine x_topW (fun z4 g_z4 => ?_)
  unfold in32 at g_z4
  refine x_A k130_9 (fun _ => rfl) ?_
  refine x_callS k130_10 (y := 219) (n := 1) (w0 := 1) (w1 := 2) (as := [vj a]) (rest := [vi z4]) (by decide +kernel) rfl rfl rfl rfl (xe_mono (C_J13_bitCount_95d88 s0 hG0 a b_a) ?_)
  rintro s6 v ⟨-, t_s6, z5, rfl, g_z5⟩
  rw [t_s6.nil]
  show xe none 130 13 [(0, vj a), (2, vj b), (4, vi d)] [vi z5, vi z4] s0 0 0 _
  refine x_A k130_13 (fun _ => rfl) ?_
  refine x_callS k130_14 (y := 219) (n := 1) (w0 := 2) (w1 := 2) (as := [vj b]) (rest := [vi z5, vi z4]) (by decide +kernel) rfl rfl rfl rfl (xe_mono (C_J13_bitCount_95d88 s0 hG0 b b_b) ?_)
  rintro s8 v ⟨-, t_s8, z7, rfl, g_z7⟩
  rw [t_s8.nil]
  show xe none 130 17 [(0, vj a), (2, vj b), (4, vi d)] [vi z7, vi z5, vi z4] s0 0 0 _
  refine x_imul k130_17 ?_
  refine x_topW (fun z9 g_z9 => ?_)
  unfold in32 at g_z9
  refine x_ic_le k130_18 (t := 25) rfl (by first | exact x_rbe e_z4 g_z4 rfl rfl | exact x_rb g_z4 rfl rfl | exact ⟨by omega, by omega⟩) (by first | exact x_rbe e_z9 g_z9 rfl rfl | exact x_rb g_z9 rfl rfl | exact ⟨by omega, by omega⟩) (fun c10 => ?_) (fun c10 => ?_)
  · skip
    refine x_A k130_25 (fun _ => rfl) ?_
    exact x_zret k130_26 rfl ⟨by omega, by omega⟩ ⟨hG0, f0, 0, rfl, ⟨by decide, by decide⟩⟩
  · skip
    refine x_A k130_21 (fun _ => rfl) ?_
    refine x_goto k130_22 (t := 26) rfl ?_
    exact x_zret k130_26 rfl ⟨by omega, by omega⟩ ⟨hG0, f0, 1, rfl, ⟨by decide, by decide⟩⟩
