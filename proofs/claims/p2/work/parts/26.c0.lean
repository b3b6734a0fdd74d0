theorem C_X10_isWithin (s0 : xS) (hG0 : GI s0) (a : Int) (b_a : (-2147483648) ≤ a ∧ a ≤ 2147483647) (b : Int) (b_b : (-2147483648) ≤ b ∧ b ≤ 2147483647) (c : Int) (b_c : (-2147483648) ≤ c ∧ c ≤ 2147483647) : xe none 121 0 (lv_args 0 [vi a, vi b, vi c]) [] s0 0 0 (fun s' v => GI s' ∧ FL [] s0 s' ∧ ∃ z, v = some (vi z) ∧ 0 ≤ z ∧ z ≤ 1) := by
  have f0 : FL [] s0 s0 := FL.rf
  show xe none 121 0 [(0, vi a), (1, vi b), (2, vi c)] [] s0 0 0 _
  refine x_A k121_0 (fun _ => rfl) ?_
  refine x_A k121_1 (fun _ => rfl) ?_
  refine x_ic_lt k121_2 (t := 14) rfl ⟨by omega, by omega⟩ ⟨by omega, by omega⟩ (fun c1 => ?_) (fun c1 => ?_)
  · skip
    refine x_A k121_14 (fun _ => rfl) ?_
    exact x_zret k121_15 rfl ⟨by omega, by omega⟩ ⟨hG0, f0, 0, rfl, by omega, by omega⟩
  · skip
    refine x_A k121_5 (fun _ => rfl) ?_
    refine x_A k121_6 (fun _ => rfl) ?_
    refine x_ic_gt k121_7 (t := 14) rfl ⟨by omega, by omega⟩ ⟨by omega, by omega⟩ (fun c2 => ?_) (fun c2 => ?_)
    · skip
      refine x_A k121_14 (fun _ => rfl) ?_
      exact x_zret k121_15 rfl ⟨by omega, by omega⟩ ⟨hG0, f0, 0, rfl, by omega, by omega⟩
    · skip
      refine x_A k121_10 (fun _ => rfl) ?_
      refine x_goto k121_11 (t := 15) rfl ?_
      exact x_zret k121_15 rfl ⟨by omega, by omega⟩ ⟨hG0, f0, 1, rfl, by omega, by omega⟩
theorem C_X7_has_1 (s0 : xS) (hG0 : GI s0) (a : Int) (b_a : (-2147483648) ≤ a ∧ a ≤ 2147483647) : xe none 59 0 (lv_args 0 [.ref 1, vi a]) [] s0 0 0 (fun s' v => GI s' ∧ FL [] s0 s' ∧ ∃ z, v = some (vi z) ∧ 0 ≤ z ∧ z ≤ 1) := by
  have f0 : FL [] s0 s0 := FL.rf
  show xe none 59 0 [(0, .ref 1), (1, vi a)] [] s0 0 0 _
  refine x_A k59_0 (fun _ => rfl) ?_
  refine x_if_lt k59_1 (t := 16) rfl ⟨by omega, by omega⟩ (fun c1 => ?_) (fun c1 => ?_)
  · skip
    refine x_A k59_16 (fun _ => rfl) ?_
    exact x_zret k59_17 rfl ⟨by omega, by omega⟩ ⟨hG0, f0, 0, rfl, by omega, by omega⟩
  · skip
    refine x_A k59_4 (fun _ => rfl) ?_
    refine x_A k59_5 (fun _ => rfl) ?_
    refine x_getI k59_6 (f := 4) rfl (q := 1) (n := 5) (kd := 4) ⟨by decide, rfl⟩ (by decide) rfl ?_
    refine x_top (fun z2 e_z2 => ?_)
    have g_z2 : (1 : Int) ≤ s0 1 4 ∧ s0 1 4 ≤ 40 := hG0 1 4
    refine x_ic_ge k59_9 (t := 16) rfl ⟨by omega, by omega⟩ ⟨by omega, by omega⟩ (fun c3 => ?_) (fun c3 => ?_)
    · skip
      refine x_A k59_16 (fun _ => rfl) ?_
      exact x_zret k59_17 rfl ⟨by omega, by omega⟩ ⟨hG0, f0, 0, rfl, by omega, by omega⟩
    · skip
      refine x_A k59_12 (fun _ => rfl) ?_
      refine x_goto k59_13 (t := 17) rfl ?_
      exact x_zret k59_17 rfl ⟨by omega, by omega⟩ ⟨hG0, f0, 1, rfl, by omega, by omega⟩
theorem C_X10_oneIf (s0 : xS) (hG0 : GI s0) (a : Int) (b_a : 0 ≤ a ∧ a ≤ 1) : xe none 126 0 (lv_args 0 [vi a]) [] s0 0 0 (fun s' v => GI s' ∧ FL [] s0 s' ∧ ∃ z, v = some (vi z) ∧ 0 ≤ z ∧ z ≤ 1) := by
  have f0 : FL [] s0 s0 := FL.rf
  show xe none 126 0 [(0, vi a)] [] s0 0 0 _
  refine x_A k126_0 (fun _ => rfl) ?_
  refine x_if_eq k126_1 (t := 8) rfl ⟨by omega, by omega⟩ (fun c1 => ?_) (fun c1 => ?_)
  · skip
    refine x_A k126_8 (fun _ => rfl) ?_
    exact x_iret k126_9 rfl ⟨hG0, f0, 0, rfl, by omega, by omega⟩
  · skip
    refine x_A k126_4 (fun _ => rfl) ?_
    refine x_goto k126_5 (t := 9) rfl ?_
    exact x_iret k126_9 rfl ⟨hG0, f0, 1, rfl, by omega, by omega⟩
theorem C_X10_edition_0 (s0 : xS) (hG0 : GI s0)  : xe none 91 0 (lv_args 0 [.ref 0]) [] s0 0 0 (fun s' v => GI s' ∧ FL [11] s0 s' ∧ ∃ z, v = some (vi z) ∧ (-1003) ≤ z ∧ z ≤ 9) := by
  have f0 : FL [11] s0 s0 := FL.rf
  show xe none 91 0 [(0, .ref 0)] [] s0 0 0 _
  refine x_A k91_0 (fun _ => rfl) ?_
  refine x_getI k91_1 (f := 10) rfl (q := 0) (n := 12) (kd := 3) ⟨by decide, rfl⟩ (by decide) rfl ?_
  refine x_top (fun z1 e_z1 => ?_)
  have g_z1 : (0 : Int) ≤ s0 0 10 ∧ s0 0 10 ≤ 9 := hG0 0 10
  refine x_bipush k91_4 (by decide +kernel) ?_
  refine x_ic_lt k91_6 (t := 13) rfl ⟨by omega, by omega⟩ ⟨by omega, by omega⟩ (fun c2 => ?_) (fun c2 => ?_)
  · skip
    refine x_A k91_13 (fun _ => rfl) ?_
    refine x_A k91_14 (fun _ => rfl) ?_
    refine x_getI k91_15 (f := 10) rfl (q := 0) (n := 12) (kd := 3) ⟨by decide, rfl⟩ (by decide) rfl ?_
    rw [e_z1.symm]
    refine x_A k91_18 (fun _ => rfl) ?_
    refine x_iadd k91_19 ?_
    refine x_top (fun z3 e_z3 => ?_)
    refine x_putI k91_20 (f := 10) rfl (q := 0) (n := 12) (kd := 3) ⟨by decide, rfl⟩ rfl rfl rfl ?_
    refine x_nh (fun s4 e_s4 => ?_)
    have hG_s4 : GI s4 := by rw [e_s4]; exact hG0.up (show 0 ≤ z3 ∧ z3 ≤ 9 from ⟨by omega, by omega⟩)
    have f_s4 : FL [11] s0 s4 := by rw [e_s4]; exact f0.up (show 11 ∈ [11] from by decide)
    have q5 : s4 0 10 = z3 := by rw [e_s4]; exact x_up_same
    refine x_A k91_23 (fun _ => rfl) ?_
    refine x_getI k91_24 (f := 10) rfl (q := 0) (n := 12) (kd := 3) ⟨by decide, rfl⟩ (by decide) rfl ?_
    rw [q5]
    exact x_iret k91_27 rfl ⟨hG_s4, f_s4, z3, rfl, by omega, by omega⟩
  · skip
    refine x_sipush k91_9 (by decide +kernel) ?_
    exact x_iret k91_12 rfl ⟨hG0, f0, (-1003), rfl, by omega, by omega⟩
theorem C_X11_edition_256 (s0 : xS) (hG0 : GI s0)  : xe none 145 0 (lv_args 0 [.ref 256]) [] s0 0 0 (fun s' v => GI s' ∧ FL [4097] s0 s' ∧ ∃ z, v = some (vi z) ∧ (-1003) ≤ z ∧ z ≤ 9) := by
  have f0 : FL [4097] s0 s0 := FL.rf
  show xe none 145 0 [(0, .ref 256)] [] s0 0 0 _
  refine x_A k145_0 (fun _ => rfl) ?_
  refine x_getI k145_1 (f := 0) rfl (q := 256) (n := 62) (kd := 15) ⟨by decide, rfl⟩ (by decide) rfl ?_
  refine x_top (fun z1 e_z1 => ?_)
  have g_z1 : (0 : Int) ≤ s0 256 0 ∧ s0 256 0 ≤ 9 := hG0 256 0
  refine x_bipush k145_4 (by decide +kernel) ?_
  refine x_ic_ne k145_6 (t := 13) rfl ⟨by omega, by omega⟩ ⟨by omega, by omega⟩ (fun c2 => ?_) (fun c2 => ?_)
  · skip
    refine x_A k145_13 (fun _ => rfl) ?_
    refine x_A k145_14 (fun _ => rfl) ?_
    refine x_getI k145_15 (f := 0) rfl (q := 256) (n := 62) (kd := 15) ⟨by decide, rfl⟩ (by decide) rfl ?_
    rw [e_z1.symm]
    refine x_A k145_18 (fun _ => rfl) ?_
    refine x_iadd k145_19 ?_
    refine x_top (fun z3 e_z3 => ?_)
    refine x_putI k145_20 (f := 0) rfl (q := 256) (n := 62) (kd := 15) ⟨by decide, rfl⟩ rfl rfl rfl ?_
    refine x_nh (fun s4 e_s4 => ?_)
    have hG_s4 : GI s4 := by rw [e_s4]; exact hG0.up (show 0 ≤ z3 ∧ z3 ≤ 9 from ⟨by omega, by omega⟩)
    have f_s4 : FL [4097] s0 s4 := by rw [e_s4]; exact f0.up (show 4097 ∈ [4097] from by decide)
    have q5 : s4 256 0 = z3 := by rw [e_s4]; exact x_up_same
    refine x_A k145_23 (fun _ => rfl) ?_
    refine x_getI k145_24 (f := 0) rfl (q := 256) (n := 62) (kd := 15) ⟨by decide, rfl⟩ (by decide) rfl ?_
    rw [q5]
    exact x_iret k145_27 rfl ⟨hG_s4, f_s4, z3, rfl, by omega, by omega⟩
  · skip
    refine x_sipush k145_9 (by decide +kernel) ?_
    exact x_iret k145_12 rfl ⟨hG0, f0, (-1003), rfl, by omega, by omega⟩
theorem C_X11_in (s0 : xS) (hG0 : GI s0) (a : Int) (b_a : in64 a) (b : Int) (b_b : in64 b) (c : Int) (b_c : in64 c) : xe none 136 0 (lv_args 0 [vj a, vj b, vj c]) [] s0 0 0 (fun s' v => GI s' ∧ FL [] s0 s' ∧ ∃ z, v = some (vi z) ∧ 0 ≤ z ∧ z ≤ 1) := by
  have f0 : FL [] s0 s0 := FL.rf
  show xe none 136 0 [(0, vj a), (2, vj b), (4, vj c)] [] s0 0 0 _
  refine x_A k136_0 (fun _ => rfl) ?_
  refine x_A k136_1 (fun _ => rfl) ?_
  refine x_lc_lt k136_2 k136_3 (t := 17) rfl b_a b_b (fun c1 => ?_) (fun c1 => ?_)
  · skip
    refine x_A k136_17 (fun _ => rfl) ?_
    exact x_zret k136_18 rfl ⟨by omega, by omega⟩ ⟨hG0, f0, 0, rfl, by omega, by omega⟩
  · skip
    refine x_A k136_6 (fun _ => rfl) ?_
    refine x_A k136_7 (fun _ => rfl) ?_
    refine x_lc_gt k136_9 k136_10 (t := 17) rfl b_a b_c (fun c2 => ?_) (fun c2 => ?_)
    · skip
      refine x_A k136_17 (fun _ => rfl) ?_
      exact x_zret k136_18 rfl ⟨by omega, by omega⟩ ⟨hG0, f0, 0, rfl, by omega, by omega⟩
    · skip
      refine x_A k136_13 (fun _ => rfl) ?_
      refine x_goto k136_14 (t := 18) rfl ?_
      exact x_zret k136_18 rfl ⟨by omega, by omega⟩ ⟨hG0, f0, 1, rfl, by omega, by omega⟩
theorem C_X11_isMark_256 (s0 : xS) (hG0 : GI s0) (a : Int) (b_a : (-2147483648) ≤ a ∧ a ≤ 2147483647) : xe none 137 0 (lv_args 0 [.ref 256, vi a]) [] s0 0 0 (fun s' v => GI s' ∧ FL [] s0 s' ∧ ∃ z, v = some (vi z) ∧ 0 ≤ z ∧ z ≤ 1) := by
  have f0 : FL [] s0 s0 := FL.rf
  show xe none 137 0 [(0, .ref 256), (1, vi a)] [] s0 0 0 _
  refine x_A k137_0 (fun _ => rfl) ?_
  refine x_i2l k137_1 ⟨by omega, by omega⟩ ?_
  refine x_lconst k137_2 (z := 0) (by decide +kernel) ?_
  refine x_A k137_3 (fun _ => rfl) ?_
  refine x_getI k137_4 (f := 1) rfl (q := 256) (n := 62) (kd := 15) ⟨by decide, rfl⟩ (by decide) rfl ?_
  refine x_top (fun z1 e_z1 => ?_)
  have g_z1 : (1 : Int) ≤ s0 256 1 ∧ s0 256 1 ≤ 40 := hG0 256 1
  refine x_A k137_7 (fun _ => rfl) ?_
  refine x_isub k137_8 ?_
  refine x_top (fun z2 e_z2 => ?_)
  refine x_i2l k137_9 ⟨by omega, by omega⟩ ?_
  refine x_callS k137_10 (y := 136) (n := 3) (w0 := 0) (w1 := 6) (as := [vj a, vj 0, vj z2]) (rest := []) (by decide +kernel) rfl rfl rfl rfl (xe_mono (C_X11_in s0 hG0 a ⟨by omega, by omega⟩ 0 ⟨by omega, by omega⟩ z2 ⟨by omega, by omega⟩) ?_)
  rintro s4 v ⟨hG_s4, t_s4, z3, rfl, g_z3⟩
  have f_s4 : FL [] s0 s4 := f0.tr t_s4 (by decide)
  have q5 : s4 256 1 = z1 := (t_s4 256 1 (show 4098 ∉ [] from by decide)).trans e_z1.symm
  show xe none 137 13 [(0, .ref 256), (1, vi a)] [vi z3] s4 0 0 _
  exact x_zret k137_13 rfl ⟨by omega, by omega⟩ ⟨hG_s4, f_s4, z3, rfl, by omega, by omega⟩
theorem C_X10_isKnownEdition_0 (s0 : xS) (hG0 : GI s0) (a : Int) (b_a : (-2147483648) ≤ a ∧ a ≤ 2147483647) : xe none 125 0 (lv_args 0 [.ref 0, vi a]) [] s0 0 0 (fun s' v => GI s' ∧ FL [] s0 s' ∧ ∃ z, v = some (vi z) ∧ 0 ≤ z ∧ z ≤ 1) := by
  have f0 : FL [] s0 s0 := FL.rf
  show xe none 125 0 [(0, .ref 0), (1, vi a)] [] s0 0 0 _
  refine x_A k125_0 (fun _ => rfl) ?_
  refine x_A k125_1 (fun _ => rfl) ?_
  refine x_A k125_2 (fun _ => rfl) ?_
  refine x_getI k125_3 (f := 10) rfl (q := 0) (n := 12) (kd := 3) ⟨by decide, rfl⟩ (by decide) rfl ?_
  refine x_top (fun z1 e_z1 => ?_)
  have g_z1 : (0 : Int) ≤ s0 0 10 ∧ s0 0 10 ≤ 9 := hG0 0 10
  refine x_callS k125_6 (y := 121) (n := 3) (w0 := 0) (w1 := 3) (as := [vi a, vi 0, vi z1]) (rest := []) (by decide +kernel) rfl rfl rfl rfl (xe_mono (C_X10_isWithin s0 hG0 a ⟨by omega, by omega⟩ 0 ⟨by omega, by omega⟩ z1 ⟨by omega, by omega⟩) ?_)
  rintro s3 v ⟨hG_s3, t_s3, z2, rfl, g_z2⟩
  have f_s3 : FL [] s0 s3 := f0.tr t_s3 (by decide)
  have q4 : s3 0 10 = z1 := (t_s3 0 10 (show 11 ∉ [] from by decide)).trans e_z1.symm
  show xe none 125 9 [(0, .ref 0), (1, vi a)] [vi z2] s3 0 0 _
  exact x_zret k125_9 rfl ⟨by omega, by omega⟩ ⟨hG_s3, f_s3, z2, rfl, by omega, by omega⟩
theorem C_X10_fault_0 (s0 : xS) (hG0 : GI s0)  : xe none 106 0 (lv_args 0 [.ref 0]) [] s0 0 0 (fun s' v => GI s' ∧ FL [] s0 s' ∧ ∃ z, v = some (vi z) ∧ (-2147483648) ≤ z ∧ z ≤ 2147483647) := by
  have f0 : FL [] s0 s0 := FL.rf
  show xe none 106 0 [(0, .ref 0)] [] s0 0 0 _
  refine x_A k106_0 (fun _ => rfl) ?_
  refine x_getI k106_1 (f := 11) rfl (q := 0) (n := 12) (kd := 3) ⟨by decide, rfl⟩ (by decide) rfl ?_
  refine x_top (fun z1 e_z1 => ?_)
  have g_z1 : (-2147483648) ≤ s0 0 11 ∧ s0 0 11 ≤ 2147483647 := hG0 0 11
  exact x_iret k106_4 rfl ⟨hG0, f0, z1, rfl, by omega, by omega⟩
theorem C_X8_forget_243 (s0 : xS) (hG0 : GI s0)  : xe none 73 0 (lv_args 0 [.ref 243]) [] s0 0 0 (fun s' v => GI s' ∧ FL [3276, 3277] s0 s' ∧ v = none) := by
  have f0 : FL [3276, 3277] s0 s0 := FL.rf
  show xe none 73 0 [(0, .ref 243)] [] s0 0 0 _
  refine x_A k73_0 (fun _ => rfl) ?_
  refine x_A k73_1 (fun _ => rfl) ?_
  refine x_putZ k73_2 (f := 11) rfl (q := 243) (n := 13) (kd := 13) ⟨by decide, rfl⟩ rfl rfl rfl ⟨by omega, by omega⟩ ?_
  refine x_nh (fun s1 e_s1 => ?_)
  have hG_s1 : GI s1 := by rw [e_s1]; exact hG0.up (show 0 ≤ 0 ∧ 0 ≤ 1 from ⟨by omega, by omega⟩)
  have f_s1 : FL [3276, 3277] s0 s1 := by rw [e_s1]; exact f0.up (show 3276 ∈ [3276, 3277] from by decide)
  have q2 : s1 243 11 = 0 := by rw [e_s1]; exact x_up_same
  refine x_A k73_5 (fun _ => rfl) ?_
  refine x_A k73_6 (fun _ => rfl) ?_
  refine x_putI k73_7 (f := 12) rfl (q := 243) (n := 13) (kd := 13) ⟨by decide, rfl⟩ rfl rfl rfl ?_
  refine x_nh (fun s3 e_s3 => ?_)
  have hG_s3 : GI s3 := by rw [e_s3]; exact hG_s1.up (show (-1) ≤ (-1) ∧ (-1) ≤ 9 from ⟨by omega, by omega⟩)
  have f_s3 : FL [3276, 3277] s0 s3 := by rw [e_s3]; exact f_s1.up (show 3277 ∈ [3276, 3277] from by decide)
  have q4 : s3 243 11 = 0 := by rw [e_s3, x_up_i (by decide)]; exact q2
  have q5 : s3 243 12 = (-1) := by rw [e_s3]; exact x_up_same
  exact x_vret k73_10 rfl ⟨hG_s3, f_s3, rfl⟩
theorem C_X5_add_231 (s0 : xS) (hG0 : GI s0)  : xe none 44 0 (lv_args 0 [.ref 231]) [] s0 0 0 (fun s' v => GI s' ∧ FL [2884] s0 s' ∧ ∃ z, v = some (vi z) ∧ (-1004) ≤ z ∧ z ≤ 3) := by
  have f0 : FL [2884] s0 s0 := FL.rf
  show xe none 44 0 [(0, .ref 231)] [] s0 0 0 _
  refine x_A k44_0 (fun _ => rfl) ?_
  refine x_getI k44_1 (f := 3) rfl (q := 231) (n := 4) (kd := 12) ⟨by decide, rfl⟩ (by decide) rfl ?_
  refine x_top (fun z1 e_z1 => ?_)
  have g_z1 : (0 : Int) ≤ s0 231 3 ∧ s0 231 3 ≤ 4 := hG0 231 3
  refine x_A k44_4 (fun _ => rfl) ?_
  refine x_ic_lt k44_5 (t := 12) rfl ⟨by omega, by omega⟩ ⟨by omega, by omega⟩ (fun c2 => ?_) (fun c2 => ?_)
  · skip
    refine x_A k44_12 (fun _ => rfl) ?_
    refine x_A k44_13 (fun _ => rfl) ?_
    refine x_getI k44_14 (f := 3) rfl (q := 231) (n := 4) (kd := 12) ⟨by decide, rfl⟩ (by decide) rfl ?_
    rw [e_z1.symm]
    refine x_A k44_17 (fun _ => rfl) ?_
    refine x_iadd k44_18 ?_
    refine x_top (fun z3 e_z3 => ?_)
    refine x_putI k44_19 (f := 3) rfl (q := 231) (n := 4) (kd := 12) ⟨by decide, rfl⟩ rfl rfl rfl ?_
    refine x_nh (fun s4 e_s4 => ?_)
    have hG_s4 : GI s4 := by rw [e_s4]; exact hG0.up (show 0 ≤ z3 ∧ z3 ≤ 4 from ⟨by omega, by omega⟩)
    have f_s4 : FL [2884] s0 s4 := by rw [e_s4]; exact f0.up (show 2884 ∈ [2884] from by decide)
    have q5 : s4 231 3 = z3 := by rw [e_s4]; exact x_up_same
    refine x_A k44_22 (fun _ => rfl) ?_
    refine x_getI k44_23 (f := 3) rfl (q := 231) (n := 4) (kd := 12) ⟨by decide, rfl⟩ (by decide) rfl ?_
    rw [q5]
    refine x_A k44_26 (fun _ => rfl) ?_
    refine x_isub k44_27 ?_
    refine x_top (fun z6 e_z6 => ?_)
    exact x_iret k44_28 rfl ⟨hG_s4, f_s4, z6, rfl, by omega, by omega⟩
  · skip
    refine x_sipush k44_8 (by decide +kernel) ?_
    exact x_iret k44_11 rfl ⟨hG0, f0, (-1004), rfl, by omega, by omega⟩
theorem C_X10_story_0 (s0 : xS) (hG0 : GI s0)  : xe none 117 0 (lv_args 0 [.ref 0]) [] s0 0 0 (fun s' v => GI s' ∧ FL [2884] s0 s' ∧ ∃ z, v = some (vi z) ∧ (-1004) ≤ z ∧ z ≤ 3) := by
  have f0 : FL [2884] s0 s0 := FL.rf
  show xe none 117 0 [(0, .ref 0)] [] s0 0 0 _
  refine x_A k117_0 (fun _ => rfl) ?_
  refine x_getR k117_1 (f := 8) rfl (q := 0) (n := 12) (kd := 3) ⟨by decide, rfl⟩ (q2 := 231) (by decide) rfl ?_
  refine x_callV k117_4 (y := 44) (n := 0) (w0 := 0) (w1 := 0) (as := []) (rest := []) (by decide +kernel) (q := 231) (nq := 4) (kq := 12) ⟨by decide, rfl⟩ rfl rfl rfl rfl (xe_mono (C_X5_add_231 s0 hG0) ?_)
  rintro s2 v ⟨hG_s2, t_s2, z1, rfl, g_z1⟩
  have f_s2 : FL [2884] s0 s2 := f0.tr t_s2 (by decide)
  show xe none 117 7 [(0, .ref 0)] [vi z1] s2 0 0 _
  exact x_iret k117_7 rfl ⟨hG_s2, f_s2, z1, rfl, by omega, by omega⟩
