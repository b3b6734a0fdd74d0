theorem E_X5_add_231 (s0 : xS) (hG0 : GI s0)  : xe none 44 0 (lv_args 0 [.ref 231]) [] s0 0 0 (fun s' v => GI s' ∧ FL [2884] s0 s' ∧ ∃ z, v = some (vi z) ∧ ((-1004) ≤ z ∧ z ≤ 3) ∧ ((s0 231 3 ≥ 4 ∧ z = -1004 ∧ s' 231 3 = s0 231 3) ∨ (s0 231 3 < 4 ∧ z = s0 231 3 ∧ s' 231 3 = s0 231 3 + 1))) := by
  have f0 : FL [2884] s0 s0 := FL.rf
  show xe none 44 0 [(0, .ref 231)] [] s0 0 0 _
  refine x_A k44_0 (fun _ => rfl) ?_
  refine x_getI k44_1 (f := 3) rfl (q := 231) (n := 4) (kd := 12) ⟨by decide, rfl⟩ (by decide) rfl ?_
  refine x_top (fun z1 e_z1 => ?_)
  have g_z1 : (0 : Int) ≤ s0 231 3 ∧ s0 231 3 ≤ 4 := hG0 231 3
  refine x_A k44_4 (fun _ => rfl) ?_
  refine x_ic_lt k44_5 (t := 12) rfl (by first | exact x_rbe e_z1 g_z1 rfl rfl | exact x_rb g_z1 rfl rfl | exact ⟨by omega, by omega⟩) ⟨by decide, by decide⟩ (fun c2 => ?_) (fun c2 => ?_)
  · skip
    refine x_A k44_12 (fun _ => rfl) ?_
    refine x_A k44_13 (fun _ => rfl) ?_
    refine x_getI k44_14 (f := 3) rfl (q := 231) (n := 4) (kd := 12) ⟨by decide, rfl⟩ (by decide) rfl ?_
    rw [e_z1.symm]
    refine x_A k44_17 (fun _ => rfl) ?_
    refine x_iadd k44_18 ?_
    refine x_top (fun z3 e_z3 => ?_)
    refine x_putI k44_19 (f := 3) rfl (q := 231) (n := 4) (kd := 12) ⟨by decide, rfl⟩ rfl rfl rfl ?_
    refine x_nh (fun s4 e_s4 => ?_)
    have hG_s4 : GI s4 := by rw [e_s4]; exact hG0.up (show 0 ≤ z3 ∧ z3 ≤ 4 from (by first | exact x_rbe e_z3 g_z3 rfl rfl | exact x_rb g_z3 rfl rfl | exact ⟨by omega, by omega⟩))
    have f_s4 : FL [2884] s0 s4 := by rw [e_s4]; exact f0.up (show 2884 ∈ [2884] from by decide +kernel)
    have q5 : s4 231 3 = z3 := by rw [e_s4]; exact x_up_same
    refine x_A k44_22 (fun _ => rfl) ?_
    refine x_getI k44_23 (f := 3) rfl (q := 231) (n := 4) (kd := 12) ⟨by decide, rfl⟩ (by decide) rfl ?_
    rw [q5]
    refine x_A k44_26 (fun _ => rfl) ?_
    refine x_isub k44_27 ?_
    refine x_top (fun z6 e_z6 => ?_)
    exact x_iret k44_28 rfl ⟨hG_s4, f_s4, z6, rfl, (by first | exact x_rbe e_z6 g_z6 rfl rfl | exact x_rb g_z6 rfl rfl | exact ⟨by omega, by omega⟩), by omega⟩
  · skip
    refine x_sipush k44_8 (by decide +kernel) ?_
    exact x_iret k44_11 rfl ⟨hG0, f0, (-1004), rfl, ⟨by decide, by decide⟩, by omega⟩
theorem E_X10_story_0 (s0 : xS) (hG0 : GI s0)  : xe none 117 0 (lv_args 0 [.ref 0]) [] s0 0 0 (fun s' v => GI s' ∧ FL [2884] s0 s' ∧ ∃ z, v = some (vi z) ∧ ((-1004) ≤ z ∧ z ≤ 3) ∧ ((s0 231 3 ≥ 4 ∧ z = -1004 ∧ s' 231 3 = s0 231 3) ∨ (s0 231 3 < 4 ∧ z = s0 231 3 ∧ s' 231 3 = s0 231 3 + 1))) := by
  have f0 : FL [2884] s0 s0 := FL.rf
  show xe none 117 0 [(0, .ref 0)] [] s0 0 0 _
  refine x_A k117_0 (fun _ => rfl) ?_
  refine x_getR k117_1 (f := 8) rfl (q := 0) (n := 12) (kd := 3) ⟨by decide, rfl⟩ (q2 := 231) (by decide) rfl ?_
  refine x_callV k117_4 (y := 44) (n := 0) (w0 := 0) (w1 := 0) (as := []) (rest := []) (by decide +kernel) (q := 231) (nq := 4) (kq := 12) ⟨by decide, rfl⟩ rfl rfl rfl rfl (xe_mono (E_X5_add_231 s0 hG0) ?_)
  rintro s2 v ⟨hG_s2, t_s2, z1, rfl, g_z1, xp_z1⟩
  have f_s2 : FL [2884] s0 s2 := f0.tr t_s2 (by decide +kernel)
  obtain ⟨z3, e_z3⟩ : ∃ z, z = s2 231 3 := ⟨_, rfl⟩
  have g_z3 : (0 : Int) ≤ s2 231 3 ∧ s2 231 3 ≤ 4 := hG_s2 231 3
  show xe none 117 7 [(0, .ref 0)] [vi z1] s2 0 0 _
  exact x_iret k117_7 rfl ⟨hG_s2, f_s2, z1, rfl, (by first | exact x_rbe e_z1 g_z1 rfl rfl | exact x_rb g_z1 rfl rfl | exact ⟨by omega, by omega⟩), by omega⟩
theorem E_X11_story_256 (s0 : xS) (hG0 : GI s0)  : xe none 215 0 (lv_args 0 [.ref 256]) [] s0 0 0 (fun s' v => GI s' ∧ FL [4155, 6400] s0 s' ∧ ∃ z, v = some (vi z) ∧ ((-1004) ≤ z ∧ z ≤ 3) ∧ ((s0 256 58 ≥ 4 ∧ z = -1004 ∧ s' 256 58 = s0 256 58) ∨ (s0 256 58 < 4 ∧ z = s0 256 58 ∧ s' 256 58 = s0 256 58 + 1))) := by
  have f0 : FL [4155, 6400] s0 s0 := FL.rf
  show xe none 215 0 [(0, .ref 256)] [] s0 0 0 _
  refine x_A k215_0 (fun _ => rfl) ?_
  refine x_getI k215_1 (f := 58) rfl (q := 256) (n := 62) (kd := 15) ⟨by decide, rfl⟩ (by decide) rfl ?_
  refine x_top (fun z1 e_z1 => ?_)
  have g_z1 : (0 : Int) ≤ s0 256 58 ∧ s0 256 58 ≤ 4 := hG0 256 58
  refine x_A k215_4 (fun _ => rfl) ?_
  refine x_ic_ne k215_5 (t := 12) rfl (by first | exact x_rbe e_z1 g_z1 rfl rfl | exact x_rb g_z1 rfl rfl | exact ⟨by omega, by omega⟩) ⟨by decide, by decide⟩ (fun c2 => ?_) (fun c2 => ?_)
  · skip
    refine x_A k215_12 (fun _ => rfl) ?_
    refine x_getR k215_13 (f := 59) rfl (q := 256) (n := 62) (kd := 15) ⟨by decide, rfl⟩ (q2 := 292) (by decide) rfl ?_
    refine x_A k215_16 (fun _ => rfl) ?_
    refine x_getI k215_17 (f := 58) rfl (q := 256) (n := 62) (kd := 15) ⟨by decide, rfl⟩ (by decide) rfl ?_
    rw [e_z1.symm]
    refine x_A k215_20 (fun _ => rfl) ?_
    refine x_iast k215_21 (q := 292) (n := 4) ⟨by decide, rfl⟩ (by decide) (by first | exact x_rbel e_z1 g_z1 rfl rfl | exact x_rbl g_z1 rfl rfl | exact ⟨by omega, by omega⟩) ?_
    refine x_nh (fun s3 e_s3 => ?_)
    have hG_s3 : GI s3 := by rw [e_s3]; exact hG0.up (show 0 ≤ 0 ∧ 0 ≤ 5 from ⟨by decide, by decide⟩)
    have f_s3 : FL [4155, 6400] s0 s3 := by rw [e_s3]; exact f0.up (show 6400 ∈ [4155, 6400] from by decide +kernel)
    have q4 : s3 256 58 = z1 := by rw [e_s3, x_up_q (by decide)]; exact e_z1.symm
    have q5 : s3 292 z1.toNat = 0 := by rw [e_s3]; exact x_up_same
    refine x_A k215_22 (fun _ => rfl) ?_
    refine x_A k215_23 (fun _ => rfl) ?_
    refine x_getI k215_24 (f := 58) rfl (q := 256) (n := 62) (kd := 15) ⟨by decide, rfl⟩ (by decide) rfl ?_
    rw [q4]
    refine x_A k215_27 (fun _ => rfl) ?_
    refine x_iadd k215_28 ?_
    refine x_top (fun z6 e_z6 => ?_)
    refine x_putI k215_29 (f := 58) rfl (q := 256) (n := 62) (kd := 15) ⟨by decide, rfl⟩ rfl rfl rfl ?_
    refine x_nh (fun s7 e_s7 => ?_)
    have hG_s7 : GI s7 := by rw [e_s7]; exact hG_s3.up (show 0 ≤ z6 ∧ z6 ≤ 4 from (by first | exact x_rbe e_z6 g_z6 rfl rfl | exact x_rb g_z6 rfl rfl | exact ⟨by omega, by omega⟩))
    have f_s7 : FL [4155, 6400] s0 s7 := by rw [e_s7]; exact f_s3.up (show 4155 ∈ [4155, 6400] from by decide +kernel)
    have q8 : s7 256 58 = z6 := by rw [e_s7]; exact x_up_same
    have q9 : s7 292 z1.toNat = 0 := by rw [e_s7, x_up_q (by first | decide | omega)]; exact q5
    refine x_A k215_32 (fun _ => rfl) ?_
    refine x_getI k215_33 (f := 58) rfl (q := 256) (n := 62) (kd := 15) ⟨by decide, rfl⟩ (by decide) rfl ?_
    rw [q8]
    refine x_A k215_36 (fun _ => rfl) ?_
    refine x_isub k215_37 ?_
    refine x_top (fun z10 e_z10 => ?_)
    exact x_iret k215_38 rfl ⟨hG_s7, f_s7, z10, rfl, (by first | exact x_rbe e_z10 g_z10 rfl rfl | exact x_rb g_z10 rfl rfl | exact ⟨by omega, by omega⟩), by omega⟩
  · skip
    refine x_sipush k215_8 (by decide +kernel) ?_
    exact x_iret k215_11 rfl ⟨hG0, f0, (-1004), rfl, ⟨by decide, by decide⟩, by omega⟩
