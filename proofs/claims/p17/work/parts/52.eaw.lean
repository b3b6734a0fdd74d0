set_option maxHeartbeats 8000000 in
theorem E_X11_readOne_256 (s0 : xS) (hG0 : GI s0) (p_256_47 : 0 ≤ s0 256 47 ∧ s0 256 47 ≤ 110) (p_256_48 : 0 ≤ s0 256 48 ∧ s0 256 48 ≤ 120) (p_256_36 : 0 ≤ s0 256 36 ∧ s0 256 36 ≤ 160) (p_256_34 : 0 ≤ s0 256 34 ∧ s0 256 34 ≤ 160) (p_256_43 : 0 ≤ s0 256 43 ∧ s0 256 43 ≤ 8) (p_256_50 : 0 ≤ s0 256 50 ∧ s0 256 50 ≤ 5) (p_256_51 : 0 ≤ s0 256 51 ∧ s0 256 51 ≤ 1) (pb : s0 256 47 + s0 256 48 ≤ s0 256 36 ∧ s0 256 36 ≤ s0 256 34 ∧ s0 256 34 ≤ 100 ∧ s0 256 43 ≤ 7) (p1 : s0 256 51 = 1) (pq : AI (s0 283) (s0 256 34) 1 (s0 256 50) (sk (s0 283) (s0 256 34) (s0 256 36))) (i0_J : J s0) (i0_A0 : AW s0 0 (s0 256 50) (s0 256 47 + s0 256 48)) : xe none 198 0 (lv_args 0 [.ref 256]) [] s0 0 0 (fun s' v => GI s' ∧ FL [4133, 4136, 4132, 6080, 6144, 4144, 4145, 4148, 4134, 4135, 4147, 6208] s0 s' ∧ ∃ z, v = some (vi z) ∧ (0 ≤ z ∧ z ≤ 5) ∧ (((z = 0 → AI (s0 283) (s0 256 34) (s' 256 51) (s' 256 50) (sk (s0 283) (s0 256 34) (s' 256 36)) ∧ s' 256 35 = s0 256 35) ∧ (z ≠ 0 → AF (s0 283) (s0 256 34) z (s' 256 35))) ∧ ((z = 0 → s0 256 36 < s' 256 36 ∧ s' 256 36 ≤ s' 256 34 ∧ s' 256 47 + s' 256 48 ≤ s' 256 36) ∧ (z = 0 → AW s' (1 - s' 256 51) (s' 256 50) (s' 256 47 + s' 256 48)))) ∧ J s') := by
  have f0 : FL [4133, 4136, 4132, 6080, 6144, 4144, 4145, 4148, 4134, 4135, 4147, 6208] s0 s0 := FL.rf
  show xe none 198 0 [(0, .ref 256)] [] s0 0 0 _
  obtain ⟨z1, e_z1⟩ : ∃ z, z = s0 256 47 := ⟨_, rfl⟩
  have g_z1 : (0 : Int) ≤ s0 256 47 ∧ s0 256 47 ≤ 110 := hG0 256 47
  obtain ⟨z2, e_z2⟩ : ∃ z, z = s0 256 48 := ⟨_, rfl⟩
  have g_z2 : (0 : Int) ≤ s0 256 48 ∧ s0 256 48 ≤ 120 := hG0 256 48
  obtain ⟨z3, e_z3⟩ : ∃ z, z = s0 256 36 := ⟨_, rfl⟩
  have g_z3 : (0 : Int) ≤ s0 256 36 ∧ s0 256 36 ≤ 160 := hG0 256 36
  obtain ⟨z4, e_z4⟩ : ∃ z, z = s0 256 34 := ⟨_, rfl⟩
  have g_z4 : (0 : Int) ≤ s0 256 34 ∧ s0 256 34 ≤ 160 := hG0 256 34
  obtain ⟨z5, e_z5⟩ : ∃ z, z = s0 256 43 := ⟨_, rfl⟩
  have g_z5 : (0 : Int) ≤ s0 256 43 ∧ s0 256 43 ≤ 8 := hG0 256 43
  obtain ⟨z6, e_z6⟩ : ∃ z, z = s0 256 50 := ⟨_, rfl⟩
  have g_z6 : (0 : Int) ≤ s0 256 50 ∧ s0 256 50 ≤ 5 := hG0 256 50
  obtain ⟨z7, e_z7⟩ : ∃ z, z = s0 256 51 := ⟨_, rfl⟩
  have g_z7 : (0 : Int) ≤ s0 256 51 ∧ s0 256 51 ≤ 1 := hG0 256 51
  obtain ⟨z8, e_z8⟩ : ∃ z, z = s0 256 35 := ⟨_, rfl⟩
  have g_z8 : (-2147483648) ≤ s0 256 35 ∧ s0 256 35 ≤ 2147483647 := hG0 256 35
  have slA := (sk_le (T := s0 283) (n := s0 256 34) (p := s0 256 36)).1
  have slB := (sk_le (T := s0 283) (n := s0 256 34) (p := s0 256 36)).2 (by omega)
  refine x_A k198_0 (fun _ => rfl) ?_
  refine x_callV k198_1 (y := 178) (n := 0) (w0 := 0) (w1 := 0) (as := []) (rest := []) (by decide +kernel) (q := 256) (nq := 62) (kq := 15) ⟨by decide, rfl⟩ rfl rfl rfl rfl (xe_mono (E_X11_readWord_256 s0 hG0 (by omega)) ?_)
  rintro s10 v ⟨hG_s10, t_s10, rfl, xp_z9⟩
  have f_s10 : FL [4133, 4136, 4132, 6080, 6144, 4144, 4145, 4148, 4134, 4135, 4147, 6208] s0 s10 := f0.tr t_s10 (by decide +kernel)
  have q11 : s10 256 47 = z1 := (t_s10 256 47 (show 4144 ∉ [4133, 4134, 4135] from by decide +kernel)).trans e_z1.symm
  have q12 : s10 256 48 = z2 := (t_s10 256 48 (show 4145 ∉ [4133, 4134, 4135] from by decide +kernel)).trans e_z2.symm
  have q13 : s10 256 34 = z4 := (t_s10 256 34 (show 4131 ∉ [4133, 4134, 4135] from by decide +kernel)).trans e_z4.symm
  have q14 : s10 256 43 = z5 := (t_s10 256 43 (show 4140 ∉ [4133, 4134, 4135] from by decide +kernel)).trans e_z5.symm
  have q15 : s10 256 50 = z6 := (t_s10 256 50 (show 4147 ∉ [4133, 4134, 4135] from by decide +kernel)).trans e_z6.symm
  have q16 : s10 256 51 = z7 := (t_s10 256 51 (show 4148 ∉ [4133, 4134, 4135] from by decide +kernel)).trans e_z7.symm
  have q17 : s10 256 35 = z8 := (t_s10 256 35 (show 4132 ∉ [4133, 4134, 4135] from by decide +kernel)).trans e_z8.symm
  have J_s10 : J s10 := J.fl i0_J t_s10 (by decide +kernel)
  have A0_s10 : AW s10 0 (s0 256 50) (s0 256 47 + s0 256 48) := AW.fl i0_A0 t_s10 (by decide +kernel)
  obtain ⟨z18, e_z18⟩ : ∃ z, z = s10 256 36 := ⟨_, rfl⟩
  have g_z18 : (0 : Int) ≤ s10 256 36 ∧ s10 256 36 ≤ 160 := hG_s10 256 36
  obtain ⟨z19, e_z19⟩ : ∃ z, z = s10 256 38 := ⟨_, rfl⟩
  have g_z19 : (0 : Int) ≤ s10 256 38 ∧ s10 256 38 ≤ 160 := hG_s10 256 38
  show xe none 198 4 [(0, .ref 256)] [] s10 0 0 _
  obtain ⟨z20, e_z20⟩ : ∃ z, z = s10 256 37 := ⟨_, rfl⟩
  have g_z20 : (-9223372036854775808) ≤ s10 256 37 ∧ s10 256 37 ≤ 9223372036854775807 := hG_s10 256 37
  have b_z20 : in64 z20 := by rw [e_z20]; exact g_z20
  obtain ⟨v0a, v0b, v0c, v0d, v0e, v0f, v0g⟩ := xp_z9
  specialize v0e (by omega)
  refine x_A k198_4 (fun _ => rfl) ?_
  refine x_getJ k198_5 (f := 37) rfl (q := 256) (n := 62) (kd := 15) ⟨by decide, rfl⟩ (by decide) rfl ?_
  refine x_rwL (e_z20.symm) ?_
  refine x_bipush k198_8 (by decide +kernel) ?_
  refine x_bipush k198_10 (by decide +kernel) ?_
  refine x_bipush k198_12 (by decide +kernel) ?_
  refine x_A k198_14 (fun _ => rfl) ?_
  refine x_A k198_15 (fun _ => rfl) ?_
  refine x_A k198_16 (fun _ => rfl) ?_
  refine x_callS k198_17 (y := 179) (n := 6) (w0 := 2) (w1 := 6) (as := [vi 110, vi 111, vi 116, vi 0, vi 0, vi 0]) (rest := [vj z20]) (by decide +kernel) rfl rfl rfl rfl (xe_mono (C_X11_code_c110_c111_c116_c0_c0_c0 s10 hG_s10 110 ⟨by decide, by decide⟩ 111 ⟨by decide, by decide⟩ 116 ⟨by decide, by decide⟩ 0 ⟨by decide, by decide⟩ 0 ⟨by decide, by decide⟩ 0 ⟨by decide, by decide⟩) ?_)
  rintro s22 v ⟨-, t_s22, z21, rfl, b_z21, xp_z21⟩
  rw [t_s22.nil]
  try rw [t_s22.nil] at xp_z21
  show xe none 198 20 [(0, .ref 256)] [vj z21, vj z20] s10 0 0 _
  refine x_lc_ne k198_20 k198_21 (t := 39) rfl b_z20 b_z21 (fun c23 => ?_) (fun c23 => ?_)
  · skip
    refine x_A k198_39 (fun _ => rfl) ?_
    refine x_callV k198_40 (y := 176) (n := 0) (w0 := 0) (w1 := 0) (as := []) (rest := []) (by decide +kernel) (q := 256) (nq := 62) (kq := 15) ⟨by decide, rfl⟩ rfl rfl rfl rfl (xe_mono (E_X11_here_256 s10 hG_s10 (by omega)) ?_)
    rintro s25 v ⟨hG_s25, t_s25, z24, rfl, g_z24, xp_z24⟩
    have f_s25 : FL [4133, 4136, 4132, 6080, 6144, 4144, 4145, 4148, 4134, 4135, 4147, 6208] s0 s25 := f_s10.tr t_s25 (by decide +kernel)
    have q26 : s25 256 47 = z1 := (t_s25 256 47 (show 4144 ∉ [4133] from by decide +kernel)).trans q11
    have q27 : s25 256 48 = z2 := (t_s25 256 48 (show 4145 ∉ [4133] from by decide +kernel)).trans q12
    have q28 : s25 256 34 = z4 := (t_s25 256 34 (show 4131 ∉ [4133] from by decide +kernel)).trans q13
    have q29 : s25 256 43 = z5 := (t_s25 256 43 (show 4140 ∉ [4133] from by decide +kernel)).trans q14
    have q30 : s25 256 50 = z6 := (t_s25 256 50 (show 4147 ∉ [4133] from by decide +kernel)).trans q15
    have q31 : s25 256 51 = z7 := (t_s25 256 51 (show 4148 ∉ [4133] from by decide +kernel)).trans q16
    have q32 : s25 256 35 = z8 := (t_s25 256 35 (show 4132 ∉ [4133] from by decide +kernel)).trans q17
    have q33 : s25 256 38 = z19 := (t_s25 256 38 (show 4135 ∉ [4133] from by decide +kernel)).trans e_z19.symm
    have q34 : s25 256 37 = z20 := (t_s25 256 37 (show 4134 ∉ [4133] from by decide +kernel)).trans e_z20.symm
    have J_s25 : J s25 := J.fl J_s10 t_s25 (by decide +kernel)
    have A0_s25 : AW s25 0 (s0 256 50) (s0 256 47 + s0 256 48) := AW.fl A0_s10 t_s25 (by decide +kernel)
    obtain ⟨z35, e_z35⟩ : ∃ z, z = s25 256 36 := ⟨_, rfl⟩
    have g_z35 : (0 : Int) ≤ s25 256 36 ∧ s25 256 36 ≤ 160 := hG_s25 256 36
    show xe none 198 43 [(0, .ref 256)] [vi z24] s25 0 0 _
    have h0 := xp_z24
    clear xp_z24
    rw [show s10 283 = s0 283 from funext fun i => f_s10 283 i (show 5824 ∉ [4133, 4136, 4132, 6080, 6144, 4144, 4145, 4148, 4134, 4135, 4147, 6208] from by decide +kernel), show s10 256 34 = s0 256 34 from f_s10 256 34 (show 4131 ∉ [4133, 4136, 4132, 6080, 6144, 4144, 4145, 4148, 4134, 4135, 4147, 6208] from by decide +kernel), show s10 256 36 = sk (s0 283) (s0 256 34) (s0 256 36) by omega, sk_sk] at h0
    obtain ⟨h0a, h0b, h0c, h0d, h0e⟩ := h0
    specialize h0e (by omega)
    refine x_bipush k198_43 (by decide +kernel) ?_
    refine x_ic_ne k198_45 (t := 93) rfl (by first | exact x_rbe e_z24 g_z24 rfl rfl | exact x_rb g_z24 rfl rfl | exact ⟨by omega, by omega⟩) ⟨by decide, by decide⟩ (fun c36 => ?_) (fun c36 => ?_)
    · skip
      refine x_A k198_93 (fun _ => rfl) ?_
      have A0_i : AW s25 0 (s25 256 50) (s25 256 47 + s25 256 48) := AW.ca A0_s25 rfl (by omega) (by omega)
      have pl2 : s25 256 37 = wv (s25 283) (s25 256 34) (s25 256 36) ∧ s25 256 38 = rn (s25 283) (s25 256 34) 97 122 (s25 256 36) ∧ sk (s25 283) (s25 256 34) (s25 256 36) = s25 256 36 := by rw [show s25 283 = s0 283 from funext fun i => f_s25 283 i (show 5824 ∉ [4133, 4136, 4132, 6080, 6144, 4144, 4145, 4148, 4134, 4135, 4147, 6208] from by decide +kernel), show s25 256 34 = s0 256 34 from f_s25 256 34 (show 4131 ∉ [4133, 4136, 4132, 6080, 6144, 4144, 4145, 4148, 4134, 4135, 4147, 6208] from by decide +kernel), show s25 256 36 = sk (s0 283) (s0 256 34) (s0 256 36) by omega]; exact ⟨by omega, by omega, sk_sk⟩
      refine x_callV k198_94 (y := 197) (n := 0) (w0 := 0) (w1 := 0) (as := []) (rest := []) (by decide +kernel) (q := 256) (nq := 62) (kq := 15) ⟨by decide, rfl⟩ rfl rfl rfl rfl (xe_mono (E_X11_readLeaf_256 s25 hG_s25 ⟨by omega, by omega⟩ ⟨by omega, by omega⟩ ⟨by omega, by omega⟩ ⟨by omega, by omega⟩ ⟨by omega, by omega⟩ ⟨by omega, by omega⟩ ⟨by omega, by omega⟩ (by omega) (by omega) pl2 J_s25 A0_i) ?_)
      rintro s38 v ⟨hG_s38, t_s38, z37, rfl, g_z37, xp_z37, J_s38⟩
      have f_s38 : FL [4133, 4136, 4132, 6080, 6144, 4144, 4145, 4148, 4134, 4135, 4147, 6208] s0 s38 := f_s25.tr t_s38 (by decide +kernel)
      have q39 : s38 256 34 = z4 := (t_s38 256 34 (show 4131 ∉ [4133, 4136, 4132, 6080, 6144, 4144, 4145, 4148] from by decide +kernel)).trans q28
      have q40 : s38 256 43 = z5 := (t_s38 256 43 (show 4140 ∉ [4133, 4136, 4132, 6080, 6144, 4144, 4145, 4148] from by decide +kernel)).trans q29
      have q41 : s38 256 50 = z6 := (t_s38 256 50 (show 4147 ∉ [4133, 4136, 4132, 6080, 6144, 4144, 4145, 4148] from by decide +kernel)).trans q30
      have q42 : s38 256 38 = z19 := (t_s38 256 38 (show 4135 ∉ [4133, 4136, 4132, 6080, 6144, 4144, 4145, 4148] from by decide +kernel)).trans q33
      have q43 : s38 256 37 = z20 := (t_s38 256 37 (show 4134 ∉ [4133, 4136, 4132, 6080, 6144, 4144, 4145, 4148] from by decide +kernel)).trans q34
      obtain ⟨z44, e_z44⟩ : ∃ z, z = s38 256 36 := ⟨_, rfl⟩
      have g_z44 : (0 : Int) ≤ s38 256 36 ∧ s38 256 36 ≤ 160 := hG_s38 256 36
      obtain ⟨z45, e_z45⟩ : ∃ z, z = s38 256 47 := ⟨_, rfl⟩
      have g_z45 : (0 : Int) ≤ s38 256 47 ∧ s38 256 47 ≤ 110 := hG_s38 256 47
      obtain ⟨z46, e_z46⟩ : ∃ z, z = s38 256 48 := ⟨_, rfl⟩
      have g_z46 : (0 : Int) ≤ s38 256 48 ∧ s38 256 48 ≤ 120 := hG_s38 256 48
      obtain ⟨z47, e_z47⟩ : ∃ z, z = s38 256 51 := ⟨_, rfl⟩
      have g_z47 : (0 : Int) ≤ s38 256 51 ∧ s38 256 51 ≤ 1 := hG_s38 256 51
      obtain ⟨z48, e_z48⟩ : ∃ z, z = s38 256 35 := ⟨_, rfl⟩
      have g_z48 : (-2147483648) ≤ s38 256 35 ∧ s38 256 35 ≤ 2147483647 := hG_s38 256 35
      show xe none 198 97 [(0, .ref 256)] [vi z37] s38 0 0 _
      obtain ⟨lf, lo1, lo2⟩ := xp_z37
      rw [show s25 283 = s0 283 from funext fun i => f_s25 283 i (show 5824 ∉ [4133, 4136, 4132, 6080, 6144, 4144, 4145, 4148, 4134, 4135, 4147, 6208] from by decide +kernel), show s25 256 34 = s0 256 34 from f_s25 256 34 (show 4131 ∉ [4133, 4136, 4132, 6080, 6144, 4144, 4145, 4148, 4134, 4135, 4147, 6208] from by decide +kernel), show s25 256 36 = sk (s0 283) (s0 256 34) (s0 256 36) by omega] at lf
      exact x_iret k198_97 rfl ⟨hG_s38, f_s38, z37, rfl, (by first | exact x_rbe e_z37 g_z37 rfl rfl | exact x_rb g_z37 rfl rfl | exact ⟨by omega, by omega⟩), ⟨⟨fun w => ⟨by rw [show s38 256 51 = 0 by omega, show s38 256 50 = s0 256 50 by omega, (lf.2.2 w).1]; exact pq.lf (by omega) (by omega) (by omega), by have := (lf.2.2 w).2; omega⟩, fun w => by rw [lf.2.1 w, lf.1]; exact pq.lfb (by omega) (by omega) (by omega)⟩, ⟨fun hz => by omega, fun hz => AW.ca (lo2 (by omega)) (by omega) (by omega) (by omega)⟩⟩, J_s38⟩
    · skip
      refine x_A k198_48 (fun _ => rfl) ?_
      refine x_getI k198_49 (f := 50) rfl (q := 256) (n := 62) (kd := 15) ⟨by decide, rfl⟩ (by decide) rfl ?_
      refine x_rw (q30) ?_
      refine x_A k198_52 (fun _ => rfl) ?_
      refine x_ic_ne k198_53 (t := 66) rfl (by first | exact x_rbe e_z6 g_z6 rfl rfl | exact x_rb g_z6 rfl rfl | exact ⟨by omega, by omega⟩) ⟨by decide, by decide⟩ (fun c49 => ?_) (fun c49 => ?_)
      · skip
        refine x_A k198_66 (fun _ => rfl) ?_
        refine x_A k198_67 (fun _ => rfl) ?_
        refine x_getI k198_68 (f := 50) rfl (q := 256) (n := 62) (kd := 15) ⟨by decide, rfl⟩ (by decide) rfl ?_
        refine x_rw (q30) ?_
        refine x_A k198_71 (fun _ => rfl) ?_
        refine x_iadd k198_72 ?_
        refine x_top (fun z50 e_z50 => ?_)
        refine x_putI k198_73 (f := 50) rfl (q := 256) (n := 62) (kd := 15) ⟨by decide, rfl⟩ rfl rfl rfl ?_
        refine x_nh (fun s51 e_s51 => ?_)
        have hG_s51 : GI s51 := by rw [e_s51]; exact hG_s25.up (show 0 ≤ z50 ∧ z50 ≤ 5 from (by first | exact x_rbe e_z50 g_z50 rfl rfl | exact x_rb g_z50 rfl rfl | exact ⟨by omega, by omega⟩))
        have f_s51 : FL [4133, 4136, 4132, 6080, 6144, 4144, 4145, 4148, 4134, 4135, 4147, 6208] s0 s51 := by rw [e_s51]; exact f_s25.up (show 4147 ∈ [4133, 4136, 4132, 6080, 6144, 4144, 4145, 4148, 4134, 4135, 4147, 6208] from by decide +kernel)
        have q52 : s51 256 47 = z1 := by rw [e_s51, x_up_i (by decide)]; exact q26
        have q53 : s51 256 48 = z2 := by rw [e_s51, x_up_i (by decide)]; exact q27
        have q54 : s51 256 34 = z4 := by rw [e_s51, x_up_i (by decide)]; exact q28
        have q55 : s51 256 43 = z5 := by rw [e_s51, x_up_i (by decide)]; exact q29
        have q56 : s51 256 51 = z7 := by rw [e_s51, x_up_i (by decide)]; exact q31
        have q57 : s51 256 35 = z8 := by rw [e_s51, x_up_i (by decide)]; exact q32
        have q58 : s51 256 38 = z19 := by rw [e_s51, x_up_i (by decide)]; exact q33
        have q59 : s51 256 37 = z20 := by rw [e_s51, x_up_i (by decide)]; exact q34
        have q60 : s51 256 36 = z35 := by rw [e_s51, x_up_i (by decide)]; exact e_z35.symm
        have q61 : s51 256 50 = z50 := by rw [e_s51]; exact x_up_same
        have J_s51 : J s51 := by rw [e_s51]; exact J.up J_s25 (show 4147 ∉ LJ from by decide)
        have A0_s51 : AW s51 0 (s0 256 50) (s0 256 47 + s0 256 48) := by rw [e_s51]; exact AW.up A0_s25 (show 4147 ∉ [6080, 4140, 4144, 4145, 6208] from by decide +kernel)
        refine x_A k198_76 (fun _ => rfl) ?_
        refine x_A k198_77 (fun _ => rfl) ?_
        refine x_getI k198_78 (f := 36) rfl (q := 256) (n := 62) (kd := 15) ⟨by decide, rfl⟩ (by decide) rfl ?_
        refine x_rw (q60) ?_
        refine x_A k198_81 (fun _ => rfl) ?_
        refine x_iadd k198_82 ?_
        refine x_top (fun z62 e_z62 => ?_)
        refine x_putI k198_83 (f := 36) rfl (q := 256) (n := 62) (kd := 15) ⟨by decide, rfl⟩ rfl rfl rfl ?_
        refine x_nh (fun s63 e_s63 => ?_)
        have hG_s63 : GI s63 := by rw [e_s63]; exact hG_s51.up (show 0 ≤ z62 ∧ z62 ≤ 160 from (by first | exact x_rbe e_z62 g_z62 rfl rfl | exact x_rb g_z62 rfl rfl | exact ⟨by omega, by omega⟩))
        have f_s63 : FL [4133, 4136, 4132, 6080, 6144, 4144, 4145, 4148, 4134, 4135, 4147, 6208] s0 s63 := by rw [e_s63]; exact f_s51.up (show 4133 ∈ [4133, 4136, 4132, 6080, 6144, 4144, 4145, 4148, 4134, 4135, 4147, 6208] from by decide +kernel)
        have q64 : s63 256 47 = z1 := by rw [e_s63, x_up_i (by decide)]; exact q52
        have q65 : s63 256 48 = z2 := by rw [e_s63, x_up_i (by decide)]; exact q53
        have q66 : s63 256 34 = z4 := by rw [e_s63, x_up_i (by decide)]; exact q54
        have q67 : s63 256 43 = z5 := by rw [e_s63, x_up_i (by decide)]; exact q55
        have q68 : s63 256 51 = z7 := by rw [e_s63, x_up_i (by decide)]; exact q56
        have q69 : s63 256 35 = z8 := by rw [e_s63, x_up_i (by decide)]; exact q57
        have q70 : s63 256 38 = z19 := by rw [e_s63, x_up_i (by decide)]; exact q58
        have q71 : s63 256 37 = z20 := by rw [e_s63, x_up_i (by decide)]; exact q59
        have q72 : s63 256 50 = z50 := by rw [e_s63, x_up_i (by decide)]; exact q61
        have q73 : s63 256 36 = z62 := by rw [e_s63]; exact x_up_same
        have J_s63 : J s63 := by rw [e_s63]; exact J.up J_s51 (show 4133 ∉ LJ from by decide)
        have A0_s63 : AW s63 0 (s0 256 50) (s0 256 47 + s0 256 48) := by rw [e_s63]; exact AW.up A0_s51 (show 4133 ∉ [6080, 4140, 4144, 4145, 6208] from by decide +kernel)
        refine x_A k198_86 (fun _ => rfl) ?_
        refine x_A k198_87 (fun _ => rfl) ?_
        refine x_callV k198_88 (y := 196) (n := 1) (w0 := 0) (w1 := 1) (as := [vi 3]) (rest := []) (by decide +kernel) (q := 256) (nq := 62) (kq := 15) ⟨by decide, rfl⟩ rfl rfl rfl rfl (xe_mono (C_X11_hold_256 s63 hG_s63 3 ⟨by decide, by decide⟩ ⟨by omega, by omega⟩) ?_)
        rintro s75 v ⟨hG_s75, t_s75, rfl, xp_z74⟩
        have f_s75 : FL [4133, 4136, 4132, 6080, 6144, 4144, 4145, 4148, 4134, 4135, 4147, 6208] s0 s75 := f_s63.tr t_s75 (by decide +kernel)
        have q76 : s75 256 47 = z1 := (t_s75 256 47 (show 4144 ∉ [6208, 4145] from by decide +kernel)).trans q64
        have q77 : s75 256 34 = z4 := (t_s75 256 34 (show 4131 ∉ [6208, 4145] from by decide +kernel)).trans q66
        have q78 : s75 256 43 = z5 := (t_s75 256 43 (show 4140 ∉ [6208, 4145] from by decide +kernel)).trans q67
        have q79 : s75 256 51 = z7 := (t_s75 256 51 (show 4148 ∉ [6208, 4145] from by decide +kernel)).trans q68
        have q80 : s75 256 35 = z8 := (t_s75 256 35 (show 4132 ∉ [6208, 4145] from by decide +kernel)).trans q69
        have q81 : s75 256 38 = z19 := (t_s75 256 38 (show 4135 ∉ [6208, 4145] from by decide +kernel)).trans q70
        have q82 : s75 256 37 = z20 := (t_s75 256 37 (show 4134 ∉ [6208, 4145] from by decide +kernel)).trans q71
        have q83 : s75 256 50 = z50 := (t_s75 256 50 (show 4147 ∉ [6208, 4145] from by decide +kernel)).trans q72
        have q84 : s75 256 36 = z62 := (t_s75 256 36 (show 4133 ∉ [6208, 4145] from by decide +kernel)).trans q73
        have J_s75 : J s75 := J.fl J_s63 t_s75 (by decide +kernel)
        show xe none 198 91 [(0, .ref 256)] [] s75 0 0 _
        obtain ⟨z85, e_z85⟩ : ∃ z, z = s75 256 48 := ⟨_, rfl⟩
        have g_z85 : (0 : Int) ≤ s75 256 48 ∧ s75 256 48 ≤ 120 := hG_s75 256 48
        have O0_h : AW s75 0 (s0 256 50 + 1) (s0 256 47 + s0 256 48 + 1) := AW.ca (AW.hold3 A0_s63 (by omega) (by omega) (by omega) (by omega) (funext fun i => t_s75 287 i (show 6080 ∉ _ from by decide)) xp_z74.2) (by omega) (by omega) (by omega)
        have s_O0 := O0_h.2.2.2
        refine x_A k198_91 (fun _ => rfl) ?_
        exact x_iret k198_92 rfl ⟨hG_s75, f_s75, 0, rfl, ⟨by decide, by decide⟩, ⟨⟨fun w => ⟨by rw [show s75 256 51 = 1 by omega, show s75 256 50 = s0 256 50 + 1 by omega, show sk (s0 283) (s0 256 34) (s75 256 36) = nx (s0 283) (s0 256 34) (sk (s0 283) (s0 256 34) (s0 256 36)) from by rw [show s75 256 36 = sk (s0 283) (s0 256 34) (s0 256 36) + 1 by omega]; exact (ch_sg (T := s0 283) (n := s0 256 34) (p := sk (s0 283) (s0 256 34) (s0 256 36)) (c := 40) (by omega) (by decide) (by decide) (by decide)).2.2.2.symm]; exact pq.op (by omega) (by omega), by omega⟩, fun w => by exfalso; omega⟩, ⟨fun hz => by omega, fun hz => AW.ca O0_h (by omega) (by omega) (by omega)⟩⟩, J_s75⟩
      · skip
        refine x_A k198_56 (fun _ => rfl) ?_
        refine x_A k198_57 (fun _ => rfl) ?_
        refine x_A k198_58 (fun _ => rfl) ?_
        refine x_getI k198_59 (f := 36) rfl (q := 256) (n := 62) (kd := 15) ⟨by decide, rfl⟩ (by decide) rfl ?_
        refine x_rw (e_z35.symm) ?_
        refine x_callV k198_62 (y := 177) (n := 2) (w0 := 0) (w1 := 2) (as := [vi 5, vi z35]) (rest := []) (by decide +kernel) (q := 256) (nq := 62) (kq := 15) ⟨by decide, rfl⟩ rfl rfl rfl rfl (xe_mono (E_X11_fails_256 s25 hG_s25 5 ⟨by decide, by decide⟩ z35 (by first | exact x_rbe e_z35 g_z35 rfl rfl | exact x_rb g_z35 rfl rfl | exact ⟨by omega, by omega⟩)) ?_)
        rintro s87 v ⟨hG_s87, t_s87, z86, rfl, g_z86, xp_z86⟩
        have f_s87 : FL [4133, 4136, 4132, 6080, 6144, 4144, 4145, 4148, 4134, 4135, 4147, 6208] s0 s87 := f_s25.tr t_s87 (by decide +kernel)
        have q88 : s87 256 47 = z1 := (t_s87 256 47 (show 4144 ∉ [4132] from by decide +kernel)).trans q26
        have q89 : s87 256 48 = z2 := (t_s87 256 48 (show 4145 ∉ [4132] from by decide +kernel)).trans q27
        have q90 : s87 256 34 = z4 := (t_s87 256 34 (show 4131 ∉ [4132] from by decide +kernel)).trans q28
        have q91 : s87 256 43 = z5 := (t_s87 256 43 (show 4140 ∉ [4132] from by decide +kernel)).trans q29
        have q92 : s87 256 50 = z6 := (t_s87 256 50 (show 4147 ∉ [4132] from by decide +kernel)).trans q30
        have q93 : s87 256 51 = z7 := (t_s87 256 51 (show 4148 ∉ [4132] from by decide +kernel)).trans q31
        have q94 : s87 256 38 = z19 := (t_s87 256 38 (show 4135 ∉ [4132] from by decide +kernel)).trans q33
        have q95 : s87 256 37 = z20 := (t_s87 256 37 (show 4134 ∉ [4132] from by decide +kernel)).trans q34
        have q96 : s87 256 36 = z35 := (t_s87 256 36 (show 4133 ∉ [4132] from by decide +kernel)).trans e_z35.symm
        have J_s87 : J s87 := J.fl J_s25 t_s87 (by decide +kernel)
        have A0_s87 : AW s87 0 (s0 256 50) (s0 256 47 + s0 256 48) := AW.fl A0_s25 t_s87 (by decide +kernel)
        obtain ⟨z97, e_z97⟩ : ∃ z, z = s87 256 35 := ⟨_, rfl⟩
        have g_z97 : (-2147483648) ≤ s87 256 35 ∧ s87 256 35 ≤ 2147483647 := hG_s87 256 35
        show xe none 198 65 [(0, .ref 256)] [vi z86] s87 0 0 _
        exact x_iret k198_65 rfl ⟨hG_s87, f_s87, z86, rfl, (by first | exact x_rbe e_z86 g_z86 rfl rfl | exact x_rb g_z86 rfl rfl | exact ⟨by omega, by omega⟩), ⟨⟨fun w => by exfalso; omega, fun w => by rw [show z86 = 5 by omega, show s87 256 35 = sk (s0 283) (s0 256 34) (s0 256 36) by omega]; exact pq.op5 (by omega) (by omega)⟩, ⟨fun hz => by exfalso; omega, fun hz => by exfalso; omega⟩⟩, J_s87⟩
  · skip
    have wk := (wv_kd (T := s0 283) (n := s0 256 34) (p := sk (s0 283) (s0 256 34) (s0 256 36)) (by omega)).2
    refine x_A k198_24 (fun _ => rfl) ?_
    refine x_A k198_25 (fun _ => rfl) ?_
    refine x_getI k198_26 (f := 38) rfl (q := 256) (n := 62) (kd := 15) ⟨by decide, rfl⟩ (by decide) rfl ?_
    refine x_rw (e_z19.symm) ?_
    refine x_putI k198_29 (f := 36) rfl (q := 256) (n := 62) (kd := 15) ⟨by decide, rfl⟩ rfl rfl rfl ?_
    refine x_nh (fun s98 e_s98 => ?_)
    have hG_s98 : GI s98 := by rw [e_s98]; exact hG_s10.up (show 0 ≤ z19 ∧ z19 ≤ 160 from (by first | exact x_rbe e_z19 g_z19 rfl rfl | exact x_rb g_z19 rfl rfl | exact ⟨by omega, by omega⟩))
    have f_s98 : FL [4133, 4136, 4132, 6080, 6144, 4144, 4145, 4148, 4134, 4135, 4147, 6208] s0 s98 := by rw [e_s98]; exact f_s10.up (show 4133 ∈ [4133, 4136, 4132, 6080, 6144, 4144, 4145, 4148, 4134, 4135, 4147, 6208] from by decide +kernel)
    have q99 : s98 256 47 = z1 := by rw [e_s98, x_up_i (by decide)]; exact q11
    have q100 : s98 256 48 = z2 := by rw [e_s98, x_up_i (by decide)]; exact q12
    have q101 : s98 256 34 = z4 := by rw [e_s98, x_up_i (by decide)]; exact q13
    have q102 : s98 256 43 = z5 := by rw [e_s98, x_up_i (by decide)]; exact q14
    have q103 : s98 256 50 = z6 := by rw [e_s98, x_up_i (by decide)]; exact q15
    have q104 : s98 256 51 = z7 := by rw [e_s98, x_up_i (by decide)]; exact q16
    have q105 : s98 256 35 = z8 := by rw [e_s98, x_up_i (by decide)]; exact q17
    have q106 : s98 256 38 = z19 := by rw [e_s98, x_up_i (by decide)]; exact e_z19.symm
    have q107 : s98 256 37 = z20 := by rw [e_s98, x_up_i (by decide)]; exact e_z20.symm
    have q108 : s98 256 36 = z19 := by rw [e_s98]; exact x_up_same
    have J_s98 : J s98 := by rw [e_s98]; exact J.up J_s10 (show 4133 ∉ LJ from by decide)
    have A0_s98 : AW s98 0 (s0 256 50) (s0 256 47 + s0 256 48) := by rw [e_s98]; exact AW.up A0_s10 (show 4133 ∉ [6080, 4140, 4144, 4145, 6208] from by decide +kernel)
    refine x_A k198_32 (fun _ => rfl) ?_
    refine x_A k198_33 (fun _ => rfl) ?_
    refine x_callV k198_34 (y := 196) (n := 1) (w0 := 0) (w1 := 1) (as := [vi 2]) (rest := []) (by decide +kernel) (q := 256) (nq := 62) (kq := 15) ⟨by decide, rfl⟩ rfl rfl rfl rfl (xe_mono (C_X11_hold_256 s98 hG_s98 2 ⟨by decide, by decide⟩ ⟨by omega, by omega⟩) ?_)
    rintro s110 v ⟨hG_s110, t_s110, rfl, xp_z109⟩
    have f_s110 : FL [4133, 4136, 4132, 6080, 6144, 4144, 4145, 4148, 4134, 4135, 4147, 6208] s0 s110 := f_s98.tr t_s110 (by decide +kernel)
    have q111 : s110 256 47 = z1 := (t_s110 256 47 (show 4144 ∉ [6208, 4145] from by decide +kernel)).trans q99
    have q112 : s110 256 34 = z4 := (t_s110 256 34 (show 4131 ∉ [6208, 4145] from by decide +kernel)).trans q101
    have q113 : s110 256 43 = z5 := (t_s110 256 43 (show 4140 ∉ [6208, 4145] from by decide +kernel)).trans q102
    have q114 : s110 256 50 = z6 := (t_s110 256 50 (show 4147 ∉ [6208, 4145] from by decide +kernel)).trans q103
    have q115 : s110 256 51 = z7 := (t_s110 256 51 (show 4148 ∉ [6208, 4145] from by decide +kernel)).trans q104
    have q116 : s110 256 35 = z8 := (t_s110 256 35 (show 4132 ∉ [6208, 4145] from by decide +kernel)).trans q105
    have q117 : s110 256 38 = z19 := (t_s110 256 38 (show 4135 ∉ [6208, 4145] from by decide +kernel)).trans q106
    have q118 : s110 256 37 = z20 := (t_s110 256 37 (show 4134 ∉ [6208, 4145] from by decide +kernel)).trans q107
    have q119 : s110 256 36 = z19 := (t_s110 256 36 (show 4133 ∉ [6208, 4145] from by decide +kernel)).trans q108
    have J_s110 : J s110 := J.fl J_s98 t_s110 (by decide +kernel)
    show xe none 198 37 [(0, .ref 256)] [] s110 0 0 _
    obtain ⟨z120, e_z120⟩ : ∃ z, z = s110 256 48 := ⟨_, rfl⟩
    have g_z120 : (0 : Int) ≤ s110 256 48 ∧ s110 256 48 ≤ 120 := hG_s110 256 48
    have N0_h : AW s110 0 (s0 256 50) (s0 256 47 + s0 256 48 + 1) := AW.ca (AW.hold2 A0_s98 (by omega) (by omega) (by omega) (by omega) (funext fun i => t_s110 287 i (show 6080 ∉ _ from by decide)) xp_z109.2) (by omega) (by omega) (by omega)
    have s_N0 := N0_h.2.2.2
    refine x_A k198_37 (fun _ => rfl) ?_
    exact x_iret k198_38 rfl ⟨hG_s110, f_s110, 0, rfl, ⟨by decide, by decide⟩, ⟨⟨fun w => ⟨by rw [show s110 256 51 = 1 by omega, show s110 256 50 = s0 256 50 by omega, show sk (s0 283) (s0 256 34) (s110 256 36) = nx (s0 283) (s0 256 34) (sk (s0 283) (s0 256 34) (s0 256 36)) from by rw [show s110 256 36 = te (s0 283) (s0 256 34) (sk (s0 283) (s0 256 34) (s0 256 36)) by omega]; rfl]; exact pq.sn (by omega), by omega⟩, fun w => by exfalso; omega⟩, ⟨fun hz => by omega, fun hz => AW.ca N0_h (by omega) (by omega) (by omega)⟩⟩, J_s110⟩
