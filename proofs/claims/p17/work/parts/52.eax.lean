set_option maxHeartbeats 8000000 in
theorem E_X11_readBehind_256 (s0 : xS) (hG0 : GI s0) (p_256_47 : 0 ≤ s0 256 47 ∧ s0 256 47 ≤ 110) (p_256_48 : 0 ≤ s0 256 48 ∧ s0 256 48 ≤ 120) (p_256_36 : 0 ≤ s0 256 36 ∧ s0 256 36 ≤ 160) (p_256_34 : 0 ≤ s0 256 34 ∧ s0 256 34 ≤ 160) (p_256_43 : 0 ≤ s0 256 43 ∧ s0 256 43 ≤ 8) (p_256_50 : 0 ≤ s0 256 50 ∧ s0 256 50 ≤ 5) (p_256_51 : 0 ≤ s0 256 51 ∧ s0 256 51 ≤ 1) (pb : s0 256 47 + s0 256 48 ≤ s0 256 36 ∧ s0 256 36 ≤ s0 256 34 ∧ s0 256 34 ≤ 100 ∧ s0 256 43 ≤ 7) (p1 : s0 256 51 = 0) (pq : AI (s0 283) (s0 256 34) 0 (s0 256 50) (sk (s0 283) (s0 256 34) (s0 256 36))) (pn : ¬ (s0 256 50 ≤ 0 ∧ s0 256 34 ≤ sk (s0 283) (s0 256 34) (s0 256 36))) (i0_J : J s0) (i0_B1 : AW s0 1 (s0 256 50) (s0 256 47 + s0 256 48)) : xe none 199 0 (lv_args 0 [.ref 256]) [] s0 0 0 (fun s' v => GI s' ∧ FL [4133, 4136, 4132, 4134, 4135, 6080, 6144, 4144, 4145, 4148, 4147, 6208] s0 s' ∧ ∃ z, v = some (vi z) ∧ (0 ≤ z ∧ z ≤ 5) ∧ (((z = 0 → AI (s0 283) (s0 256 34) (s' 256 51) (s' 256 50) (sk (s0 283) (s0 256 34) (s' 256 36)) ∧ s' 256 35 = s0 256 35) ∧ (z ≠ 0 → AF (s0 283) (s0 256 34) z (s' 256 35))) ∧ ((z = 0 → s0 256 36 < s' 256 36 ∧ s' 256 36 ≤ s' 256 34 ∧ s' 256 47 + s' 256 48 ≤ s' 256 36) ∧ (z = 0 → AW s' (1 - s' 256 51) (s' 256 50) (s' 256 47 + s' 256 48)))) ∧ J s') := by
  have f0 : FL [4133, 4136, 4132, 4134, 4135, 6080, 6144, 4144, 4145, 4148, 4147, 6208] s0 s0 := FL.rf
  show xe none 199 0 [(0, .ref 256)] [] s0 0 0 _
  obtain ⟨z1, e_z1⟩ : ∃ z, z = s0 256 47 := ⟨_, rfl⟩
  have g_z1 : (0 : Int) ≤ s0 256 47 ∧ s0 256 47 ≤ 110 := hG0 256 47
  obtain ⟨z2, e_z2⟩ : ∃ z, z = s0 256 48 := ⟨_, rfl⟩
  have g_z2 : (0 : Int) ≤ s0 256 48 ∧ s0 256 48 ≤ 120 := hG0 256 48
  obtain ⟨z3, e_z3⟩ : ∃ z, z = s0 256 36 := ⟨_, rfl⟩
  have g_z3 : (0 : Int) ≤ s0 256 36 ∧ s0 256 36 ≤ 160 := hG0 256 36
  obtain ⟨z4, e_z4⟩ : ∃ z, z = s0 256 34 := ⟨_, rfl⟩
  have g_z4 : (0 : Int) ≤ s0 256 34 ∧ s0 256 34 ≤ 160 := hG0 256 34
  obtain ⟨z5, e_z5⟩ : ∃ z, z = s0 256 43 := ⟨_, rfl⟩
  have g_z5 : (0 : Int) ≤ s0 256 43 ∧ s0 256 43 ≤ 8 := hG0 256 43
  obtain ⟨z6, e_z6⟩ : ∃ z, z = s0 256 50 := ⟨_, rfl⟩
  have g_z6 : (0 : Int) ≤ s0 256 50 ∧ s0 256 50 ≤ 5 := hG0 256 50
  obtain ⟨z7, e_z7⟩ : ∃ z, z = s0 256 51 := ⟨_, rfl⟩
  have g_z7 : (0 : Int) ≤ s0 256 51 ∧ s0 256 51 ≤ 1 := hG0 256 51
  obtain ⟨z8, e_z8⟩ : ∃ z, z = s0 256 35 := ⟨_, rfl⟩
  have g_z8 : (-2147483648) ≤ s0 256 35 ∧ s0 256 35 ≤ 2147483647 := hG0 256 35
  have slA := (sk_le (T := s0 283) (n := s0 256 34) (p := s0 256 36)).1
  have slB := (sk_le (T := s0 283) (n := s0 256 34) (p := s0 256 36)).2 (by omega)
  refine x_A k199_0 (fun _ => rfl) ?_
  refine x_callV k199_1 (y := 178) (n := 0) (w0 := 0) (w1 := 0) (as := []) (rest := []) (by decide +kernel) (q := 256) (nq := 62) (kq := 15) ⟨by decide, rfl⟩ rfl rfl rfl rfl (xe_mono (E_X11_readWord_256 s0 hG0 (by omega)) ?_)
  rintro s10 v ⟨hG_s10, t_s10, rfl, xp_z9⟩
  have f_s10 : FL [4133, 4136, 4132, 4134, 4135, 6080, 6144, 4144, 4145, 4148, 4147, 6208] s0 s10 := f0.tr t_s10 (by decide +kernel)
  have q11 : s10 256 47 = z1 := (t_s10 256 47 (show 4144 ∉ [4133, 4134, 4135] from by decide +kernel)).trans e_z1.symm
  have q12 : s10 256 48 = z2 := (t_s10 256 48 (show 4145 ∉ [4133, 4134, 4135] from by decide +kernel)).trans e_z2.symm
  have q13 : s10 256 34 = z4 := (t_s10 256 34 (show 4131 ∉ [4133, 4134, 4135] from by decide +kernel)).trans e_z4.symm
  have q14 : s10 256 43 = z5 := (t_s10 256 43 (show 4140 ∉ [4133, 4134, 4135] from by decide +kernel)).trans e_z5.symm
  have q15 : s10 256 50 = z6 := (t_s10 256 50 (show 4147 ∉ [4133, 4134, 4135] from by decide +kernel)).trans e_z6.symm
  have q16 : s10 256 51 = z7 := (t_s10 256 51 (show 4148 ∉ [4133, 4134, 4135] from by decide +kernel)).trans e_z7.symm
  have q17 : s10 256 35 = z8 := (t_s10 256 35 (show 4132 ∉ [4133, 4134, 4135] from by decide +kernel)).trans e_z8.symm
  have J_s10 : J s10 := J.fl i0_J t_s10 (by decide +kernel)
  have B1_s10 : AW s10 1 (s0 256 50) (s0 256 47 + s0 256 48) := AW.fl i0_B1 t_s10 (by decide +kernel)
  obtain ⟨z18, e_z18⟩ : ∃ z, z = s10 256 36 := ⟨_, rfl⟩
  have g_z18 : (0 : Int) ≤ s10 256 36 ∧ s10 256 36 ≤ 160 := hG_s10 256 36
  obtain ⟨z19, e_z19⟩ : ∃ z, z = s10 256 38 := ⟨_, rfl⟩
  have g_z19 : (0 : Int) ≤ s10 256 38 ∧ s10 256 38 ≤ 160 := hG_s10 256 38
  show xe none 199 4 [(0, .ref 256)] [] s10 0 0 _
  obtain ⟨v0a, v0b, v0c, v0d, v0e, v0f, v0g⟩ := xp_z9
  specialize v0e (by omega)
  refine x_A k199_4 (fun _ => rfl) ?_
  refine x_getJ k199_5 (f := 37) rfl (q := 256) (n := 62) (kd := 15) ⟨by decide, rfl⟩ (by decide) rfl ?_
  refine x_topL (fun z20 e_z20 => ?_)
  have b_z20 : in64 z20 := by rw [e_z20]; exact hG_s10 256 37
  refine x_bipush k199_8 (by decide +kernel) ?_
  refine x_bipush k199_10 (by decide +kernel) ?_
  refine x_bipush k199_12 (by decide +kernel) ?_
  refine x_A k199_14 (fun _ => rfl) ?_
  refine x_A k199_15 (fun _ => rfl) ?_
  refine x_A k199_16 (fun _ => rfl) ?_
  refine x_callS k199_17 (y := 179) (n := 6) (w0 := 2) (w1 := 6) (as := [vi 97, vi 110, vi 100, vi 0, vi 0, vi 0]) (rest := [vj z20]) (by decide +kernel) rfl rfl rfl rfl (xe_mono (C_X11_code_c97_c110_c100_c0_c0_c0 s10 hG_s10 97 ⟨by decide, by decide⟩ 110 ⟨by decide, by decide⟩ 100 ⟨by decide, by decide⟩ 0 ⟨by decide, by decide⟩ 0 ⟨by decide, by decide⟩ 0 ⟨by decide, by decide⟩) ?_)
  rintro s22 v ⟨-, t_s22, z21, rfl, b_z21, xp_z21⟩
  rw [t_s22.nil]
  try rw [t_s22.nil] at xp_z21
  show xe none 199 20 [(0, .ref 256)] [vj z21, vj z20] s10 0 0 _
  refine x_lc_ne k199_20 k199_21 (t := 28) rfl b_z20 b_z21 (fun c23 => ?_) (fun c23 => ?_)
  · skip
    refine x_A k199_28 (fun _ => rfl) ?_
    refine x_istore_n k199_29 (ls' := [(1, vi 0), (0, .ref 256)]) (by decide) rfl ?_
    refine x_A k199_30 (fun _ => rfl) ?_
    refine x_if_ne k199_31 (t := 53) rfl ⟨by decide, by decide⟩ (fun c24 => by exfalso; omega) (fun c24 => ?_)
    refine x_A k199_34 (fun _ => rfl) ?_
    refine x_getJ k199_35 (f := 37) rfl (q := 256) (n := 62) (kd := 15) ⟨by decide, rfl⟩ (by decide) rfl ?_
    refine x_topL (fun z25 e_z25 => ?_)
    have b_z25 : in64 z25 := by rw [e_z25]; exact hG_s10 256 37
    refine x_bipush k199_38 (by decide +kernel) ?_
    refine x_bipush k199_40 (by decide +kernel) ?_
    refine x_A k199_42 (fun _ => rfl) ?_
    refine x_A k199_43 (fun _ => rfl) ?_
    refine x_A k199_44 (fun _ => rfl) ?_
    refine x_A k199_45 (fun _ => rfl) ?_
    refine x_callS k199_46 (y := 179) (n := 6) (w0 := 2) (w1 := 6) (as := [vi 111, vi 114, vi 0, vi 0, vi 0, vi 0]) (rest := [vj z25]) (by decide +kernel) rfl rfl rfl rfl (xe_mono (C_X11_code_c111_c114_c0_c0_c0_c0 s10 hG_s10 111 ⟨by decide, by decide⟩ 114 ⟨by decide, by decide⟩ 0 ⟨by decide, by decide⟩ 0 ⟨by decide, by decide⟩ 0 ⟨by decide, by decide⟩ 0 ⟨by decide, by decide⟩) ?_)
    rintro s27 v ⟨-, t_s27, z26, rfl, b_z26, xp_z26⟩
    rw [t_s27.nil]
    try rw [t_s27.nil] at xp_z26
    show xe none 199 49 [(1, vi 0), (0, .ref 256)] [vj z26, vj z25] s10 0 0 _
    refine x_lc_ne k199_49 k199_50 (t := 94) rfl b_z25 b_z26 (fun c28 => ?_) (fun c28 => ?_)
    · skip
      refine x_A k199_94 (fun _ => rfl) ?_
      refine x_callV k199_95 (y := 176) (n := 0) (w0 := 0) (w1 := 0) (as := []) (rest := []) (by decide +kernel) (q := 256) (nq := 62) (kq := 15) ⟨by decide, rfl⟩ rfl rfl rfl rfl (xe_mono (E_X11_here_256 s10 hG_s10 (by omega)) ?_)
      rintro s30 v ⟨hG_s30, t_s30, z29, rfl, g_z29, xp_z29⟩
      have f_s30 : FL [4133, 4136, 4132, 4134, 4135, 6080, 6144, 4144, 4145, 4148, 4147, 6208] s0 s30 := f_s10.tr t_s30 (by decide +kernel)
      have q31 : s30 256 47 = z1 := (t_s30 256 47 (show 4144 ∉ [4133] from by decide +kernel)).trans q11
      have q32 : s30 256 48 = z2 := (t_s30 256 48 (show 4145 ∉ [4133] from by decide +kernel)).trans q12
      have q33 : s30 256 34 = z4 := (t_s30 256 34 (show 4131 ∉ [4133] from by decide +kernel)).trans q13
      have q34 : s30 256 43 = z5 := (t_s30 256 43 (show 4140 ∉ [4133] from by decide +kernel)).trans q14
      have q35 : s30 256 50 = z6 := (t_s30 256 50 (show 4147 ∉ [4133] from by decide +kernel)).trans q15
      have q36 : s30 256 51 = z7 := (t_s30 256 51 (show 4148 ∉ [4133] from by decide +kernel)).trans q16
      have q37 : s30 256 35 = z8 := (t_s30 256 35 (show 4132 ∉ [4133] from by decide +kernel)).trans q17
      have q38 : s30 256 38 = z19 := (t_s30 256 38 (show 4135 ∉ [4133] from by decide +kernel)).trans e_z19.symm
      have J_s30 : J s30 := J.fl J_s10 t_s30 (by decide +kernel)
      have B1_s30 : AW s30 1 (s0 256 50) (s0 256 47 + s0 256 48) := AW.fl B1_s10 t_s30 (by decide +kernel)
      obtain ⟨z39, e_z39⟩ : ∃ z, z = s30 256 36 := ⟨_, rfl⟩
      have g_z39 : (0 : Int) ≤ s30 256 36 ∧ s30 256 36 ≤ 160 := hG_s30 256 36
      show xe none 199 98 [(1, vi 0), (0, .ref 256)] [vi z29] s30 0 0 _
      have h0 := xp_z29
      clear xp_z29
      rw [show s10 283 = s0 283 from funext fun i => f_s10 283 i (show 5824 ∉ [4133, 4136, 4132, 4134, 4135, 6080, 6144, 4144, 4145, 4148, 4147, 6208] from by decide +kernel), show s10 256 34 = s0 256 34 from f_s10 256 34 (show 4131 ∉ [4133, 4136, 4132, 4134, 4135, 6080, 6144, 4144, 4145, 4148, 4147, 6208] from by decide +kernel), show s10 256 36 = sk (s0 283) (s0 256 34) (s0 256 36) by omega, sk_sk] at h0
      obtain ⟨h0a, h0b, h0c, h0d, h0e⟩ := h0
      specialize h0e (by omega)
      refine x_bipush k199_98 (by decide +kernel) ?_
      refine x_ic_ne k199_100 (t := 152) rfl (by first | exact x_rbe e_z29 g_z29 rfl rfl | exact x_rb g_z29 rfl rfl | exact ⟨by omega, by omega⟩) ⟨by decide, by decide⟩ (fun c40 => ?_) (fun c40 => ?_)
      · skip
        refine x_A k199_152 (fun _ => rfl) ?_
        refine x_A k199_153 (fun _ => rfl) ?_
        refine x_A k199_154 (fun _ => rfl) ?_
        refine x_getI k199_155 (f := 36) rfl (q := 256) (n := 62) (kd := 15) ⟨by decide, rfl⟩ (by decide) rfl ?_
        refine x_rw (e_z39.symm) ?_
        refine x_callV k199_158 (y := 177) (n := 2) (w0 := 0) (w1 := 2) (as := [vi 1, vi z39]) (rest := []) (by decide +kernel) (q := 256) (nq := 62) (kq := 15) ⟨by decide, rfl⟩ rfl rfl rfl rfl (xe_mono (E_X11_fails_256 s30 hG_s30 1 ⟨by decide, by decide⟩ z39 (by first | exact x_rbe e_z39 g_z39 rfl rfl | exact x_rb g_z39 rfl rfl | exact ⟨by omega, by omega⟩)) ?_)
        rintro s42 v ⟨hG_s42, t_s42, z41, rfl, g_z41, xp_z41⟩
        have f_s42 : FL [4133, 4136, 4132, 4134, 4135, 6080, 6144, 4144, 4145, 4148, 4147, 6208] s0 s42 := f_s30.tr t_s42 (by decide +kernel)
        have q43 : s42 256 47 = z1 := (t_s42 256 47 (show 4144 ∉ [4132] from by decide +kernel)).trans q31
        have q44 : s42 256 48 = z2 := (t_s42 256 48 (show 4145 ∉ [4132] from by decide +kernel)).trans q32
        have q45 : s42 256 34 = z4 := (t_s42 256 34 (show 4131 ∉ [4132] from by decide +kernel)).trans q33
        have q46 : s42 256 43 = z5 := (t_s42 256 43 (show 4140 ∉ [4132] from by decide +kernel)).trans q34
        have q47 : s42 256 50 = z6 := (t_s42 256 50 (show 4147 ∉ [4132] from by decide +kernel)).trans q35
        have q48 : s42 256 51 = z7 := (t_s42 256 51 (show 4148 ∉ [4132] from by decide +kernel)).trans q36
        have q49 : s42 256 38 = z19 := (t_s42 256 38 (show 4135 ∉ [4132] from by decide +kernel)).trans q38
        have q50 : s42 256 36 = z39 := (t_s42 256 36 (show 4133 ∉ [4132] from by decide +kernel)).trans e_z39.symm
        have J_s42 : J s42 := J.fl J_s30 t_s42 (by decide +kernel)
        have B1_s42 : AW s42 1 (s0 256 50) (s0 256 47 + s0 256 48) := AW.fl B1_s30 t_s42 (by decide +kernel)
        obtain ⟨z51, e_z51⟩ : ∃ z, z = s42 256 35 := ⟨_, rfl⟩
        have g_z51 : (-2147483648) ≤ s42 256 35 ∧ s42 256 35 ≤ 2147483647 := hG_s42 256 35
        show xe none 199 161 [(1, vi 0), (0, .ref 256)] [vi z41] s42 0 0 _
        exact x_iret k199_161 rfl ⟨hG_s42, f_s42, z41, rfl, (by first | exact x_rbe e_z41 g_z41 rfl rfl | exact x_rb g_z41 rfl rfl | exact ⟨by omega, by omega⟩), ⟨⟨fun w => by exfalso; omega, fun w => by rw [show z41 = 1 by omega, show s42 256 35 = sk (s0 283) (s0 256 34) (s0 256 36) by omega]; exact pq.bad ⟨by omega, by omega⟩ (by omega) (by omega)⟩, ⟨fun hz => by exfalso; omega, fun hz => by exfalso; omega⟩⟩, J_s42⟩
      · skip
        refine x_A k199_103 (fun _ => rfl) ?_
        refine x_getI k199_104 (f := 50) rfl (q := 256) (n := 62) (kd := 15) ⟨by decide, rfl⟩ (by decide) rfl ?_
        refine x_rw (q35) ?_
        refine x_if_le k199_107 (t := 152) rfl (by first | exact x_rbe e_z6 g_z6 rfl rfl | exact x_rb g_z6 rfl rfl | exact ⟨by omega, by omega⟩) (fun c52 => ?_) (fun c52 => ?_)
        · skip
          refine x_A k199_152 (fun _ => rfl) ?_
          refine x_A k199_153 (fun _ => rfl) ?_
          refine x_A k199_154 (fun _ => rfl) ?_
          refine x_getI k199_155 (f := 36) rfl (q := 256) (n := 62) (kd := 15) ⟨by decide, rfl⟩ (by decide) rfl ?_
          refine x_rw (e_z39.symm) ?_
          refine x_callV k199_158 (y := 177) (n := 2) (w0 := 0) (w1 := 2) (as := [vi 1, vi z39]) (rest := []) (by decide +kernel) (q := 256) (nq := 62) (kq := 15) ⟨by decide, rfl⟩ rfl rfl rfl rfl (xe_mono (E_X11_fails_256 s30 hG_s30 1 ⟨by decide, by decide⟩ z39 (by first | exact x_rbe e_z39 g_z39 rfl rfl | exact x_rb g_z39 rfl rfl | exact ⟨by omega, by omega⟩)) ?_)
          rintro s54 v ⟨hG_s54, t_s54, z53, rfl, g_z53, xp_z53⟩
          have f_s54 : FL [4133, 4136, 4132, 4134, 4135, 6080, 6144, 4144, 4145, 4148, 4147, 6208] s0 s54 := f_s30.tr t_s54 (by decide +kernel)
          have q55 : s54 256 47 = z1 := (t_s54 256 47 (show 4144 ∉ [4132] from by decide +kernel)).trans q31
          have q56 : s54 256 48 = z2 := (t_s54 256 48 (show 4145 ∉ [4132] from by decide +kernel)).trans q32
          have q57 : s54 256 34 = z4 := (t_s54 256 34 (show 4131 ∉ [4132] from by decide +kernel)).trans q33
          have q58 : s54 256 43 = z5 := (t_s54 256 43 (show 4140 ∉ [4132] from by decide +kernel)).trans q34
          have q59 : s54 256 50 = z6 := (t_s54 256 50 (show 4147 ∉ [4132] from by decide +kernel)).trans q35
          have q60 : s54 256 51 = z7 := (t_s54 256 51 (show 4148 ∉ [4132] from by decide +kernel)).trans q36
          have q61 : s54 256 38 = z19 := (t_s54 256 38 (show 4135 ∉ [4132] from by decide +kernel)).trans q38
          have q62 : s54 256 36 = z39 := (t_s54 256 36 (show 4133 ∉ [4132] from by decide +kernel)).trans e_z39.symm
          have J_s54 : J s54 := J.fl J_s30 t_s54 (by decide +kernel)
          have B1_s54 : AW s54 1 (s0 256 50) (s0 256 47 + s0 256 48) := AW.fl B1_s30 t_s54 (by decide +kernel)
          obtain ⟨z63, e_z63⟩ : ∃ z, z = s54 256 35 := ⟨_, rfl⟩
          have g_z63 : (-2147483648) ≤ s54 256 35 ∧ s54 256 35 ≤ 2147483647 := hG_s54 256 35
          show xe none 199 161 [(1, vi 0), (0, .ref 256)] [vi z53] s54 0 0 _
          exact x_iret k199_161 rfl ⟨hG_s54, f_s54, z53, rfl, (by first | exact x_rbe e_z53 g_z53 rfl rfl | exact x_rb g_z53 rfl rfl | exact ⟨by omega, by omega⟩), ⟨⟨fun w => by exfalso; omega, fun w => by rw [show z53 = 1 by omega, show s54 256 35 = sk (s0 283) (s0 256 34) (s0 256 36) by omega]; exact pq.bad ⟨by omega, by omega⟩ (by omega) (by omega)⟩, ⟨fun hz => by exfalso; omega, fun hz => by exfalso; omega⟩⟩, J_s54⟩
        · skip
          refine x_A k199_110 (fun _ => rfl) ?_
          refine x_A k199_111 (fun _ => rfl) ?_
          refine x_getI k199_112 (f := 36) rfl (q := 256) (n := 62) (kd := 15) ⟨by decide, rfl⟩ (by decide) rfl ?_
          refine x_rw (e_z39.symm) ?_
          refine x_A k199_115 (fun _ => rfl) ?_
          refine x_iadd k199_116 ?_
          refine x_top (fun z64 e_z64 => ?_)
          refine x_putI k199_117 (f := 36) rfl (q := 256) (n := 62) (kd := 15) ⟨by decide, rfl⟩ rfl rfl rfl ?_
          refine x_nh (fun s65 e_s65 => ?_)
          have hG_s65 : GI s65 := by rw [e_s65]; exact hG_s30.up (show 0 ≤ z64 ∧ z64 ≤ 160 from (by first | exact x_rbe e_z64 g_z64 rfl rfl | exact x_rb g_z64 rfl rfl | exact ⟨by omega, by omega⟩))
          have f_s65 : FL [4133, 4136, 4132, 4134, 4135, 6080, 6144, 4144, 4145, 4148, 4147, 6208] s0 s65 := by rw [e_s65]; exact f_s30.up (show 4133 ∈ [4133, 4136, 4132, 4134, 4135, 6080, 6144, 4144, 4145, 4148, 4147, 6208] from by decide +kernel)
          have q66 : s65 256 47 = z1 := by rw [e_s65, x_up_i (by decide)]; exact q31
          have q67 : s65 256 48 = z2 := by rw [e_s65, x_up_i (by decide)]; exact q32
          have q68 : s65 256 34 = z4 := by rw [e_s65, x_up_i (by decide)]; exact q33
          have q69 : s65 256 43 = z5 := by rw [e_s65, x_up_i (by decide)]; exact q34
          have q70 : s65 256 50 = z6 := by rw [e_s65, x_up_i (by decide)]; exact q35
          have q71 : s65 256 51 = z7 := by rw [e_s65, x_up_i (by decide)]; exact q36
          have q72 : s65 256 35 = z8 := by rw [e_s65, x_up_i (by decide)]; exact q37
          have q73 : s65 256 38 = z19 := by rw [e_s65, x_up_i (by decide)]; exact q38
          have q74 : s65 256 36 = z64 := by rw [e_s65]; exact x_up_same
          have J_s65 : J s65 := by rw [e_s65]; exact J.up J_s30 (show 4133 ∉ LJ from by decide)
          have B1_s65 : AW s65 1 (s0 256 50) (s0 256 47 + s0 256 48) := by rw [e_s65]; exact AW.up B1_s30 (show 4133 ∉ [6080, 4140, 4144, 4145, 6208] from by decide +kernel)
          refine x_A k199_120 (fun _ => rfl) ?_
          refine x_A k199_121 (fun _ => rfl) ?_
          refine x_getI k199_122 (f := 50) rfl (q := 256) (n := 62) (kd := 15) ⟨by decide, rfl⟩ (by decide) rfl ?_
          refine x_rw (q70) ?_
          refine x_A k199_125 (fun _ => rfl) ?_
          refine x_isub k199_126 ?_
          refine x_top (fun z75 e_z75 => ?_)
          refine x_putI k199_127 (f := 50) rfl (q := 256) (n := 62) (kd := 15) ⟨by decide, rfl⟩ rfl rfl rfl ?_
          refine x_nh (fun s76 e_s76 => ?_)
          have hG_s76 : GI s76 := by rw [e_s76]; exact hG_s65.up (show 0 ≤ z75 ∧ z75 ≤ 5 from (by first | exact x_rbe e_z75 g_z75 rfl rfl | exact x_rb g_z75 rfl rfl | exact ⟨by omega, by omega⟩))
          have f_s76 : FL [4133, 4136, 4132, 4134, 4135, 6080, 6144, 4144, 4145, 4148, 4147, 6208] s0 s76 := by rw [e_s76]; exact f_s65.up (show 4147 ∈ [4133, 4136, 4132, 4134, 4135, 6080, 6144, 4144, 4145, 4148, 4147, 6208] from by decide +kernel)
          have q77 : s76 256 47 = z1 := by rw [e_s76, x_up_i (by decide)]; exact q66
          have q78 : s76 256 48 = z2 := by rw [e_s76, x_up_i (by decide)]; exact q67
          have q79 : s76 256 34 = z4 := by rw [e_s76, x_up_i (by decide)]; exact q68
          have q80 : s76 256 43 = z5 := by rw [e_s76, x_up_i (by decide)]; exact q69
          have q81 : s76 256 51 = z7 := by rw [e_s76, x_up_i (by decide)]; exact q71
          have q82 : s76 256 35 = z8 := by rw [e_s76, x_up_i (by decide)]; exact q72
          have q83 : s76 256 38 = z19 := by rw [e_s76, x_up_i (by decide)]; exact q73
          have q84 : s76 256 36 = z64 := by rw [e_s76, x_up_i (by decide)]; exact q74
          have q85 : s76 256 50 = z75 := by rw [e_s76]; exact x_up_same
          have J_s76 : J s76 := by rw [e_s76]; exact J.up J_s65 (show 4147 ∉ LJ from by decide)
          have B1_s76 : AW s76 1 (s0 256 50) (s0 256 47 + s0 256 48) := by rw [e_s76]; exact AW.up B1_s65 (show 4147 ∉ [6080, 4140, 4144, 4145, 6208] from by decide +kernel)
          refine x_A k199_130 (fun _ => rfl) ?_
          refine x_A k199_131 (fun _ => rfl) ?_
          have AW1_c := AW.rf B1_s76
          refine x_callV k199_132 (y := 195) (n := 1) (w0 := 0) (w1 := 1) (as := [vi 0]) (rest := []) (by decide +kernel) (q := 256) (nq := 62) (kq := 15) ⟨by decide, rfl⟩ rfl rfl rfl rfl (xe_mono (C_X11_work_256 s76 hG_s76 0 ⟨by decide, by decide⟩ ⟨by omega, by omega⟩ ⟨by omega, by omega⟩ ⟨by omega, by omega⟩ (by omega) (by omega) J_s76 AW1_c) ?_)
          rintro s87 v ⟨hG_s87, t_s87, rfl, xp_z86, J_s87, AW1_s87⟩
          have f_s87 : FL [4133, 4136, 4132, 4134, 4135, 6080, 6144, 4144, 4145, 4148, 4147, 6208] s0 s87 := f_s76.tr t_s87 (by decide +kernel)
          have q88 : s87 256 34 = z4 := (t_s87 256 34 (show 4131 ∉ [6080, 6144, 4144, 4145] from by decide +kernel)).trans q79
          have q89 : s87 256 43 = z5 := (t_s87 256 43 (show 4140 ∉ [6080, 6144, 4144, 4145] from by decide +kernel)).trans q80
          have q90 : s87 256 51 = z7 := (t_s87 256 51 (show 4148 ∉ [6080, 6144, 4144, 4145] from by decide +kernel)).trans q81
          have q91 : s87 256 35 = z8 := (t_s87 256 35 (show 4132 ∉ [6080, 6144, 4144, 4145] from by decide +kernel)).trans q82
          have q92 : s87 256 38 = z19 := (t_s87 256 38 (show 4135 ∉ [6080, 6144, 4144, 4145] from by decide +kernel)).trans q83
          have q93 : s87 256 36 = z64 := (t_s87 256 36 (show 4133 ∉ [6080, 6144, 4144, 4145] from by decide +kernel)).trans q84
          have q94 : s87 256 50 = z75 := (t_s87 256 50 (show 4147 ∉ [6080, 6144, 4144, 4145] from by decide +kernel)).trans q85
          show xe none 199 135 [(1, vi 0), (0, .ref 256)] [] s87 0 0 _
          have B1_c : AW s87 1 (s0 256 50) (s0 256 47 + s0 256 48) := AW.tr B1_s76 AW1_s87
          have s_B1_c := B1_c.2.2.2
          obtain ⟨z95, e_z95⟩ : ∃ z, z = s87 256 47 := ⟨_, rfl⟩
          have g_z95 : (0 : Int) ≤ s87 256 47 ∧ s87 256 47 ≤ 110 := hG_s87 256 47
          obtain ⟨z96, e_z96⟩ : ∃ z, z = s87 256 48 := ⟨_, rfl⟩
          have g_z96 : (0 : Int) ≤ s87 256 48 ∧ s87 256 48 ≤ 120 := hG_s87 256 48
          have w1 := B1_c.has3 (by omega) (by omega)
          have gw : (0 : Int) ≤ s87 289 (s87 256 48 - 1).toNat ∧ s87 289 (s87 256 48 - 1).toNat ≤ 3 := hG_s87 289 (s87 256 48 - 1).toNat
          have w3 : s87 289 (s87 256 48 - 1).toNat = 3 := by omega
          refine x_A k199_135 (fun _ => rfl) ?_
          refine x_A k199_136 (fun _ => rfl) ?_
          refine x_getI k199_137 (f := 48) rfl (q := 256) (n := 62) (kd := 15) ⟨by decide, rfl⟩ (by decide) rfl ?_
          refine x_rw (e_z96.symm) ?_
          refine x_A k199_140 (fun _ => rfl) ?_
          refine x_isub k199_141 ?_
          refine x_top (fun z97 e_z97 => ?_)
          refine x_putI k199_142 (f := 48) rfl (q := 256) (n := 62) (kd := 15) ⟨by decide, rfl⟩ rfl rfl rfl ?_
          refine x_nh (fun s98 e_s98 => ?_)
          have hG_s98 : GI s98 := by rw [e_s98]; exact hG_s87.up (show 0 ≤ z97 ∧ z97 ≤ 120 from (by first | exact x_rbe e_z97 g_z97 rfl rfl | exact x_rb g_z97 rfl rfl | exact ⟨by omega, by omega⟩))
          have f_s98 : FL [4133, 4136, 4132, 4134, 4135, 6080, 6144, 4144, 4145, 4148, 4147, 6208] s0 s98 := by rw [e_s98]; exact f_s87.up (show 4145 ∈ [4133, 4136, 4132, 4134, 4135, 6080, 6144, 4144, 4145, 4148, 4147, 6208] from by decide +kernel)
          have q99 : s98 256 34 = z4 := by rw [e_s98, x_up_i (by decide)]; exact q88
          have q100 : s98 256 43 = z5 := by rw [e_s98, x_up_i (by decide)]; exact q89
          have q101 : s98 256 51 = z7 := by rw [e_s98, x_up_i (by decide)]; exact q90
          have q102 : s98 256 35 = z8 := by rw [e_s98, x_up_i (by decide)]; exact q91
          have q103 : s98 256 38 = z19 := by rw [e_s98, x_up_i (by decide)]; exact q92
          have q104 : s98 256 36 = z64 := by rw [e_s98, x_up_i (by decide)]; exact q93
          have q105 : s98 256 50 = z75 := by rw [e_s98, x_up_i (by decide)]; exact q94
          have q106 : s98 256 47 = z95 := by rw [e_s98, x_up_i (by decide)]; exact e_z95.symm
          have q107 : s98 256 48 = z97 := by rw [e_s98]; exact x_up_same
          have J_s98 : J s98 := by rw [e_s98]; exact J.up J_s87 (show 4145 ∉ LJ from by decide)
          have D1_c : AW s98 1 (s0 256 50 - 1) (s0 256 47 + s0 256 48 - 1) := AW.close B1_c w1 w3 (by omega) (by omega) (by omega) (by rw [e_s98]; exact funext fun i => x_up_q (by decide)) (by rw [e_s98]; exact funext fun i => x_up_q (by decide))
          have s_D1c := D1_c.2.2.2
          have AW1_d := AW.rf D1_c
          refine x_A k199_145 (fun _ => rfl) ?_
          refine x_A k199_146 (fun _ => rfl) ?_
          refine x_callV k199_147 (y := 195) (n := 1) (w0 := 0) (w1 := 1) (as := [vi 2]) (rest := []) (by decide +kernel) (q := 256) (nq := 62) (kq := 15) ⟨by decide, rfl⟩ rfl rfl rfl rfl (xe_mono (C_X11_work_256 s98 hG_s98 2 ⟨by decide, by decide⟩ ⟨by omega, by omega⟩ ⟨by omega, by omega⟩ ⟨by omega, by omega⟩ (by omega) (by omega) J_s98 AW1_d) ?_)
          rintro s109 v ⟨hG_s109, t_s109, rfl, xp_z108, J_s109, AW1_s109⟩
          have f_s109 : FL [4133, 4136, 4132, 4134, 4135, 6080, 6144, 4144, 4145, 4148, 4147, 6208] s0 s109 := f_s98.tr t_s109 (by decide +kernel)
          have q110 : s109 256 34 = z4 := (t_s109 256 34 (show 4131 ∉ [6080, 6144, 4144, 4145] from by decide +kernel)).trans q99
          have q111 : s109 256 43 = z5 := (t_s109 256 43 (show 4140 ∉ [6080, 6144, 4144, 4145] from by decide +kernel)).trans q100
          have q112 : s109 256 51 = z7 := (t_s109 256 51 (show 4148 ∉ [6080, 6144, 4144, 4145] from by decide +kernel)).trans q101
          have q113 : s109 256 35 = z8 := (t_s109 256 35 (show 4132 ∉ [6080, 6144, 4144, 4145] from by decide +kernel)).trans q102
          have q114 : s109 256 38 = z19 := (t_s109 256 38 (show 4135 ∉ [6080, 6144, 4144, 4145] from by decide +kernel)).trans q103
          have q115 : s109 256 36 = z64 := (t_s109 256 36 (show 4133 ∉ [6080, 6144, 4144, 4145] from by decide +kernel)).trans q104
          have q116 : s109 256 50 = z75 := (t_s109 256 50 (show 4147 ∉ [6080, 6144, 4144, 4145] from by decide +kernel)).trans q105
          show xe none 199 150 [(1, vi 0), (0, .ref 256)] [] s109 0 0 _
          have D1_w : AW s109 1 (s0 256 50 - 1) (s0 256 47 + s0 256 48 - 1) := AW.tr D1_c AW1_s109
          have s_D1_w := D1_w.2.2.2
          obtain ⟨z117, e_z117⟩ : ∃ z, z = s109 256 47 := ⟨_, rfl⟩
          have g_z117 : (0 : Int) ≤ s109 256 47 ∧ s109 256 47 ≤ 110 := hG_s109 256 47
          obtain ⟨z118, e_z118⟩ : ∃ z, z = s109 256 48 := ⟨_, rfl⟩
          have g_z118 : (0 : Int) ≤ s109 256 48 ∧ s109 256 48 ≤ 120 := hG_s109 256 48
          refine x_A k199_150 (fun _ => rfl) ?_
          exact x_iret k199_151 rfl ⟨hG_s109, f_s109, 0, rfl, ⟨by decide, by decide⟩, ⟨⟨fun w => ⟨by rw [show s109 256 51 = 0 by omega, show s109 256 50 = s0 256 50 - 1 by omega, show sk (s0 283) (s0 256 34) (s109 256 36) = nx (s0 283) (s0 256 34) (sk (s0 283) (s0 256 34) (s0 256 36)) from by rw [show s109 256 36 = sk (s0 283) (s0 256 34) (s0 256 36) + 1 by omega]; exact (ch_sg (T := s0 283) (n := s0 256 34) (p := sk (s0 283) (s0 256 34) (s0 256 36)) (c := 41) (by omega) (by decide) (by decide) (by decide)).2.2.2.symm]; exact pq.cl (by omega) (by omega), by omega⟩, fun w => by exfalso; omega⟩, ⟨fun hz => by omega, fun hz => AW.ca D1_w (by omega) (by omega) (by omega)⟩⟩, J_s109⟩
    · skip
      have wk := (wv_kd (T := s0 283) (n := s0 256 34) (p := sk (s0 283) (s0 256 34) (s0 256 36)) (by omega)).2
      refine x_A k199_53 (fun _ => rfl) ?_
      refine x_A k199_54 (fun _ => rfl) ?_
      refine x_getI k199_55 (f := 38) rfl (q := 256) (n := 62) (kd := 15) ⟨by decide, rfl⟩ (by decide) rfl ?_
      refine x_rw (e_z19.symm) ?_
      refine x_putI k199_58 (f := 36) rfl (q := 256) (n := 62) (kd := 15) ⟨by decide, rfl⟩ rfl rfl rfl ?_
      refine x_nh (fun s119 e_s119 => ?_)
      have hG_s119 : GI s119 := by rw [e_s119]; exact hG_s10.up (show 0 ≤ z19 ∧ z19 ≤ 160 from (by first | exact x_rbe e_z19 g_z19 rfl rfl | exact x_rb g_z19 rfl rfl | exact ⟨by omega, by omega⟩))
      have f_s119 : FL [4133, 4136, 4132, 4134, 4135, 6080, 6144, 4144, 4145, 4148, 4147, 6208] s0 s119 := by rw [e_s119]; exact f_s10.up (show 4133 ∈ [4133, 4136, 4132, 4134, 4135, 6080, 6144, 4144, 4145, 4148, 4147, 6208] from by decide +kernel)
      have q120 : s119 256 47 = z1 := by rw [e_s119, x_up_i (by decide)]; exact q11
      have q121 : s119 256 48 = z2 := by rw [e_s119, x_up_i (by decide)]; exact q12
      have q122 : s119 256 34 = z4 := by rw [e_s119, x_up_i (by decide)]; exact q13
      have q123 : s119 256 43 = z5 := by rw [e_s119, x_up_i (by decide)]; exact q14
      have q124 : s119 256 50 = z6 := by rw [e_s119, x_up_i (by decide)]; exact q15
      have q125 : s119 256 51 = z7 := by rw [e_s119, x_up_i (by decide)]; exact q16
      have q126 : s119 256 35 = z8 := by rw [e_s119, x_up_i (by decide)]; exact q17
      have q127 : s119 256 38 = z19 := by rw [e_s119, x_up_i (by decide)]; exact e_z19.symm
      have q128 : s119 256 36 = z19 := by rw [e_s119]; exact x_up_same
      have J_s119 : J s119 := by rw [e_s119]; exact J.up J_s10 (show 4133 ∉ LJ from by decide)
      have B1_s119 : AW s119 1 (s0 256 50) (s0 256 47 + s0 256 48) := by rw [e_s119]; exact AW.up B1_s10 (show 4133 ∉ [6080, 4140, 4144, 4145, 6208] from by decide +kernel)
      refine x_A k199_61 (fun _ => rfl) ?_
      refine x_A k199_62 (fun _ => rfl) ?_
      refine x_if_eq k199_63 (t := 70) rfl ⟨by decide, by decide⟩ (fun c129 => ?_) (fun c129 => by exfalso; omega)
      refine x_A k199_70 (fun _ => rfl) ?_
      have AW1_b := AW.rf B1_s119
      refine x_callV k199_71 (y := 195) (n := 1) (w0 := 0) (w1 := 1) (as := [vi 0]) (rest := []) (by decide +kernel) (q := 256) (nq := 62) (kq := 15) ⟨by decide, rfl⟩ rfl rfl rfl rfl (xe_mono (C_X11_work_256 s119 hG_s119 0 ⟨by decide, by decide⟩ ⟨by omega, by omega⟩ ⟨by omega, by omega⟩ ⟨by omega, by omega⟩ (by omega) (by omega) J_s119 AW1_b) ?_)
      rintro s131 v ⟨hG_s131, t_s131, rfl, xp_z130, J_s131, AW1_s131⟩
      have f_s131 : FL [4133, 4136, 4132, 4134, 4135, 6080, 6144, 4144, 4145, 4148, 4147, 6208] s0 s131 := f_s119.tr t_s131 (by decide +kernel)
      have q132 : s131 256 34 = z4 := (t_s131 256 34 (show 4131 ∉ [6080, 6144, 4144, 4145] from by decide +kernel)).trans q122
      have q133 : s131 256 43 = z5 := (t_s131 256 43 (show 4140 ∉ [6080, 6144, 4144, 4145] from by decide +kernel)).trans q123
      have q134 : s131 256 50 = z6 := (t_s131 256 50 (show 4147 ∉ [6080, 6144, 4144, 4145] from by decide +kernel)).trans q124
      have q135 : s131 256 51 = z7 := (t_s131 256 51 (show 4148 ∉ [6080, 6144, 4144, 4145] from by decide +kernel)).trans q125
      have q136 : s131 256 35 = z8 := (t_s131 256 35 (show 4132 ∉ [6080, 6144, 4144, 4145] from by decide +kernel)).trans q126
      have q137 : s131 256 38 = z19 := (t_s131 256 38 (show 4135 ∉ [6080, 6144, 4144, 4145] from by decide +kernel)).trans q127
      have q138 : s131 256 36 = z19 := (t_s131 256 36 (show 4133 ∉ [6080, 6144, 4144, 4145] from by decide +kernel)).trans q128
      show xe none 199 74 [(1, vi 0), (0, .ref 256)] [] s131 0 0 _
      have B1_w : AW s131 1 (s0 256 50) (s0 256 47 + s0 256 48) := AW.tr B1_s119 AW1_s131
      have s_B1_w := B1_w.2.2.2
      obtain ⟨z139, e_z139⟩ : ∃ z, z = s131 256 47 := ⟨_, rfl⟩
      have g_z139 : (0 : Int) ≤ s131 256 47 ∧ s131 256 47 ≤ 110 := hG_s131 256 47
      obtain ⟨z140, e_z140⟩ : ∃ z, z = s131 256 48 := ⟨_, rfl⟩
      have g_z140 : (0 : Int) ≤ s131 256 48 ∧ s131 256 48 ≤ 120 := hG_s131 256 48
      refine x_A k199_74 (fun _ => rfl) ?_
      refine x_A k199_75 (fun _ => rfl) ?_
      refine x_if_eq k199_76 (t := 83) rfl ⟨by decide, by decide⟩ (fun c141 => ?_) (fun c141 => by exfalso; omega)
      refine x_A k199_83 (fun _ => rfl) ?_
      refine x_callV k199_84 (y := 196) (n := 1) (w0 := 0) (w1 := 1) (as := [vi 0]) (rest := []) (by decide +kernel) (q := 256) (nq := 62) (kq := 15) ⟨by decide, rfl⟩ rfl rfl rfl rfl (xe_mono (C_X11_hold_256 s131 hG_s131 0 ⟨by decide, by decide⟩ ⟨by omega, by omega⟩) ?_)
      rintro s143 v ⟨hG_s143, t_s143, rfl, xp_z142⟩
      have f_s143 : FL [4133, 4136, 4132, 4134, 4135, 6080, 6144, 4144, 4145, 4148, 4147, 6208] s0 s143 := f_s131.tr t_s143 (by decide +kernel)
      have q144 : s143 256 34 = z4 := (t_s143 256 34 (show 4131 ∉ [6208, 4145] from by decide +kernel)).trans q132
      have q145 : s143 256 43 = z5 := (t_s143 256 43 (show 4140 ∉ [6208, 4145] from by decide +kernel)).trans q133
      have q146 : s143 256 50 = z6 := (t_s143 256 50 (show 4147 ∉ [6208, 4145] from by decide +kernel)).trans q134
      have q147 : s143 256 51 = z7 := (t_s143 256 51 (show 4148 ∉ [6208, 4145] from by decide +kernel)).trans q135
      have q148 : s143 256 35 = z8 := (t_s143 256 35 (show 4132 ∉ [6208, 4145] from by decide +kernel)).trans q136
      have q149 : s143 256 38 = z19 := (t_s143 256 38 (show 4135 ∉ [6208, 4145] from by decide +kernel)).trans q137
      have q150 : s143 256 36 = z19 := (t_s143 256 36 (show 4133 ∉ [6208, 4145] from by decide +kernel)).trans q138
      have q151 : s143 256 47 = z139 := (t_s143 256 47 (show 4144 ∉ [6208, 4145] from by decide +kernel)).trans e_z139.symm
      have J_s143 : J s143 := J.fl J_s131 t_s143 (by decide +kernel)
      show xe none 199 87 [(1, vi 0), (0, .ref 256)] [] s143 0 0 _
      obtain ⟨z152, e_z152⟩ : ∃ z, z = s143 256 48 := ⟨_, rfl⟩
      have g_z152 : (0 : Int) ≤ s143 256 48 ∧ s143 256 48 ≤ 120 := hG_s143 256 48
      have C0_h : AW s143 0 (s0 256 50) (s0 256 47 + s0 256 48 + 1) := AW.ca (AW.holdb B1_w (by omega) (by omega) (by omega) (by omega) (by omega) (funext fun i => t_s143 287 i (show 6080 ∉ _ from by decide)) xp_z142.2) (by omega) (by omega) (by omega)
      have s_C0 := C0_h.2.2.2
      refine x_A k199_87 (fun _ => rfl) ?_
      refine x_A k199_88 (fun _ => rfl) ?_
      refine x_putZ k199_89 (f := 51) rfl (q := 256) (n := 62) (kd := 15) ⟨by decide, rfl⟩ rfl rfl rfl ⟨by omega, by omega⟩ ?_
      refine x_nh (fun s153 e_s153 => ?_)
      have hG_s153 : GI s153 := by rw [e_s153]; exact hG_s143.up (show 0 ≤ 1 ∧ 1 ≤ 1 from ⟨by decide, by decide⟩)
      have f_s153 : FL [4133, 4136, 4132, 4134, 4135, 6080, 6144, 4144, 4145, 4148, 4147, 6208] s0 s153 := by rw [e_s153]; exact f_s143.up (show 4148 ∈ [4133, 4136, 4132, 4134, 4135, 6080, 6144, 4144, 4145, 4148, 4147, 6208] from by decide +kernel)
      have q154 : s153 256 34 = z4 := by rw [e_s153, x_up_i (by decide)]; exact q144
      have q155 : s153 256 43 = z5 := by rw [e_s153, x_up_i (by decide)]; exact q145
      have q156 : s153 256 50 = z6 := by rw [e_s153, x_up_i (by decide)]; exact q146
      have q157 : s153 256 35 = z8 := by rw [e_s153, x_up_i (by decide)]; exact q148
      have q158 : s153 256 38 = z19 := by rw [e_s153, x_up_i (by decide)]; exact q149
      have q159 : s153 256 36 = z19 := by rw [e_s153, x_up_i (by decide)]; exact q150
      have q160 : s153 256 47 = z139 := by rw [e_s153, x_up_i (by decide)]; exact q151
      have q161 : s153 256 48 = z152 := by rw [e_s153, x_up_i (by decide)]; exact e_z152.symm
      have q162 : s153 256 51 = 1 := by rw [e_s153]; exact x_up_same
      have J_s153 : J s153 := by rw [e_s153]; exact J.up J_s143 (show 4148 ∉ LJ from by decide)
      have C0_s153 : AW s153 0 (s0 256 50) (s0 256 47 + s0 256 48 + 1) := by rw [e_s153]; exact AW.up C0_h (show 4148 ∉ [6080, 4140, 4144, 4145, 6208] from by decide +kernel)
      refine x_A k199_92 (fun _ => rfl) ?_
      exact x_iret k199_93 rfl ⟨hG_s153, f_s153, 0, rfl, ⟨by decide, by decide⟩, ⟨⟨fun w => ⟨by rw [show s153 256 51 = 1 by omega, show s153 256 50 = s0 256 50 by omega, show sk (s0 283) (s0 256 34) (s153 256 36) = nx (s0 283) (s0 256 34) (sk (s0 283) (s0 256 34) (s0 256 36)) from by rw [show s153 256 36 = te (s0 283) (s0 256 34) (sk (s0 283) (s0 256 34) (s0 256 36)) by omega]; rfl]; exact pq.jn (by omega), by omega⟩, fun w => by exfalso; omega⟩, ⟨fun hz => by omega, fun hz => AW.ca C0_s153 (by omega) (by omega) (by omega)⟩⟩, J_s153⟩
  · skip
    refine x_A k199_24 (fun _ => rfl) ?_
    refine x_goto k199_25 (t := 29) rfl ?_
    refine x_istore_n k199_29 (ls' := [(1, vi 1), (0, .ref 256)]) (by decide) rfl ?_
    refine x_A k199_30 (fun _ => rfl) ?_
    refine x_if_ne k199_31 (t := 53) rfl ⟨by decide, by decide⟩ (fun c163 => ?_) (fun c163 => by exfalso; omega)
    have wk := (wv_kd (T := s0 283) (n := s0 256 34) (p := sk (s0 283) (s0 256 34) (s0 256 36)) (by omega)).2
    refine x_A k199_53 (fun _ => rfl) ?_
    refine x_A k199_54 (fun _ => rfl) ?_
    refine x_getI k199_55 (f := 38) rfl (q := 256) (n := 62) (kd := 15) ⟨by decide, rfl⟩ (by decide) rfl ?_
    refine x_rw (e_z19.symm) ?_
    refine x_putI k199_58 (f := 36) rfl (q := 256) (n := 62) (kd := 15) ⟨by decide, rfl⟩ rfl rfl rfl ?_
    refine x_nh (fun s164 e_s164 => ?_)
    have hG_s164 : GI s164 := by rw [e_s164]; exact hG_s10.up (show 0 ≤ z19 ∧ z19 ≤ 160 from (by first | exact x_rbe e_z19 g_z19 rfl rfl | exact x_rb g_z19 rfl rfl | exact ⟨by omega, by omega⟩))
    have f_s164 : FL [4133, 4136, 4132, 4134, 4135, 6080, 6144, 4144, 4145, 4148, 4147, 6208] s0 s164 := by rw [e_s164]; exact f_s10.up (show 4133 ∈ [4133, 4136, 4132, 4134, 4135, 6080, 6144, 4144, 4145, 4148, 4147, 6208] from by decide +kernel)
    have q165 : s164 256 47 = z1 := by rw [e_s164, x_up_i (by decide)]; exact q11
    have q166 : s164 256 48 = z2 := by rw [e_s164, x_up_i (by decide)]; exact q12
    have q167 : s164 256 34 = z4 := by rw [e_s164, x_up_i (by decide)]; exact q13
    have q168 : s164 256 43 = z5 := by rw [e_s164, x_up_i (by decide)]; exact q14
    have q169 : s164 256 50 = z6 := by rw [e_s164, x_up_i (by decide)]; exact q15
    have q170 : s164 256 51 = z7 := by rw [e_s164, x_up_i (by decide)]; exact q16
    have q171 : s164 256 35 = z8 := by rw [e_s164, x_up_i (by decide)]; exact q17
    have q172 : s164 256 38 = z19 := by rw [e_s164, x_up_i (by decide)]; exact e_z19.symm
    have q173 : s164 256 36 = z19 := by rw [e_s164]; exact x_up_same
    have J_s164 : J s164 := by rw [e_s164]; exact J.up J_s10 (show 4133 ∉ LJ from by decide)
    have B1_s164 : AW s164 1 (s0 256 50) (s0 256 47 + s0 256 48) := by rw [e_s164]; exact AW.up B1_s10 (show 4133 ∉ [6080, 4140, 4144, 4145, 6208] from by decide +kernel)
    refine x_A k199_61 (fun _ => rfl) ?_
    refine x_A k199_62 (fun _ => rfl) ?_
    refine x_if_eq k199_63 (t := 70) rfl ⟨by decide, by decide⟩ (fun c174 => by exfalso; omega) (fun c174 => ?_)
    refine x_A k199_66 (fun _ => rfl) ?_
    refine x_goto k199_67 (t := 71) rfl ?_
    have AW1_b := AW.rf B1_s164
    refine x_callV k199_71 (y := 195) (n := 1) (w0 := 0) (w1 := 1) (as := [vi 1]) (rest := []) (by decide +kernel) (q := 256) (nq := 62) (kq := 15) ⟨by decide, rfl⟩ rfl rfl rfl rfl (xe_mono (C_X11_work_256 s164 hG_s164 1 ⟨by decide, by decide⟩ ⟨by omega, by omega⟩ ⟨by omega, by omega⟩ ⟨by omega, by omega⟩ (by omega) (by omega) J_s164 AW1_b) ?_)
    rintro s176 v ⟨hG_s176, t_s176, rfl, xp_z175, J_s176, AW1_s176⟩
    have f_s176 : FL [4133, 4136, 4132, 4134, 4135, 6080, 6144, 4144, 4145, 4148, 4147, 6208] s0 s176 := f_s164.tr t_s176 (by decide +kernel)
    have q177 : s176 256 34 = z4 := (t_s176 256 34 (show 4131 ∉ [6080, 6144, 4144, 4145] from by decide +kernel)).trans q167
    have q178 : s176 256 43 = z5 := (t_s176 256 43 (show 4140 ∉ [6080, 6144, 4144, 4145] from by decide +kernel)).trans q168
    have q179 : s176 256 50 = z6 := (t_s176 256 50 (show 4147 ∉ [6080, 6144, 4144, 4145] from by decide +kernel)).trans q169
    have q180 : s176 256 51 = z7 := (t_s176 256 51 (show 4148 ∉ [6080, 6144, 4144, 4145] from by decide +kernel)).trans q170
    have q181 : s176 256 35 = z8 := (t_s176 256 35 (show 4132 ∉ [6080, 6144, 4144, 4145] from by decide +kernel)).trans q171
    have q182 : s176 256 38 = z19 := (t_s176 256 38 (show 4135 ∉ [6080, 6144, 4144, 4145] from by decide +kernel)).trans q172
    have q183 : s176 256 36 = z19 := (t_s176 256 36 (show 4133 ∉ [6080, 6144, 4144, 4145] from by decide +kernel)).trans q173
    show xe none 199 74 [(1, vi 1), (0, .ref 256)] [] s176 0 0 _
    have B1_w : AW s176 1 (s0 256 50) (s0 256 47 + s0 256 48) := AW.tr B1_s164 AW1_s176
    have s_B1_w := B1_w.2.2.2
    obtain ⟨z184, e_z184⟩ : ∃ z, z = s176 256 47 := ⟨_, rfl⟩
    have g_z184 : (0 : Int) ≤ s176 256 47 ∧ s176 256 47 ≤ 110 := hG_s176 256 47
    obtain ⟨z185, e_z185⟩ : ∃ z, z = s176 256 48 := ⟨_, rfl⟩
    have g_z185 : (0 : Int) ≤ s176 256 48 ∧ s176 256 48 ≤ 120 := hG_s176 256 48
    refine x_A k199_74 (fun _ => rfl) ?_
    refine x_A k199_75 (fun _ => rfl) ?_
    refine x_if_eq k199_76 (t := 83) rfl ⟨by decide, by decide⟩ (fun c186 => by exfalso; omega) (fun c186 => ?_)
    refine x_A k199_79 (fun _ => rfl) ?_
    refine x_goto k199_80 (t := 84) rfl ?_
    refine x_callV k199_84 (y := 196) (n := 1) (w0 := 0) (w1 := 1) (as := [vi 1]) (rest := []) (by decide +kernel) (q := 256) (nq := 62) (kq := 15) ⟨by decide, rfl⟩ rfl rfl rfl rfl (xe_mono (C_X11_hold_256 s176 hG_s176 1 ⟨by decide, by decide⟩ ⟨by omega, by omega⟩) ?_)
    rintro s188 v ⟨hG_s188, t_s188, rfl, xp_z187⟩
    have f_s188 : FL [4133, 4136, 4132, 4134, 4135, 6080, 6144, 4144, 4145, 4148, 4147, 6208] s0 s188 := f_s176.tr t_s188 (by decide +kernel)
    have q189 : s188 256 34 = z4 := (t_s188 256 34 (show 4131 ∉ [6208, 4145] from by decide +kernel)).trans q177
    have q190 : s188 256 43 = z5 := (t_s188 256 43 (show 4140 ∉ [6208, 4145] from by decide +kernel)).trans q178
    have q191 : s188 256 50 = z6 := (t_s188 256 50 (show 4147 ∉ [6208, 4145] from by decide +kernel)).trans q179
    have q192 : s188 256 51 = z7 := (t_s188 256 51 (show 4148 ∉ [6208, 4145] from by decide +kernel)).trans q180
    have q193 : s188 256 35 = z8 := (t_s188 256 35 (show 4132 ∉ [6208, 4145] from by decide +kernel)).trans q181
    have q194 : s188 256 38 = z19 := (t_s188 256 38 (show 4135 ∉ [6208, 4145] from by decide +kernel)).trans q182
    have q195 : s188 256 36 = z19 := (t_s188 256 36 (show 4133 ∉ [6208, 4145] from by decide +kernel)).trans q183
    have q196 : s188 256 47 = z184 := (t_s188 256 47 (show 4144 ∉ [6208, 4145] from by decide +kernel)).trans e_z184.symm
    have J_s188 : J s188 := J.fl J_s176 t_s188 (by decide +kernel)
    show xe none 199 87 [(1, vi 1), (0, .ref 256)] [] s188 0 0 _
    obtain ⟨z197, e_z197⟩ : ∃ z, z = s188 256 48 := ⟨_, rfl⟩
    have g_z197 : (0 : Int) ≤ s188 256 48 ∧ s188 256 48 ≤ 120 := hG_s188 256 48
    have C0_h : AW s188 0 (s0 256 50) (s0 256 47 + s0 256 48 + 1) := AW.ca (AW.holdb B1_w (by omega) (by omega) (by omega) (by omega) (by omega) (funext fun i => t_s188 287 i (show 6080 ∉ _ from by decide)) xp_z187.2) (by omega) (by omega) (by omega)
    have s_C0 := C0_h.2.2.2
    refine x_A k199_87 (fun _ => rfl) ?_
    refine x_A k199_88 (fun _ => rfl) ?_
    refine x_putZ k199_89 (f := 51) rfl (q := 256) (n := 62) (kd := 15) ⟨by decide, rfl⟩ rfl rfl rfl ⟨by omega, by omega⟩ ?_
    refine x_nh (fun s198 e_s198 => ?_)
    have hG_s198 : GI s198 := by rw [e_s198]; exact hG_s188.up (show 0 ≤ 1 ∧ 1 ≤ 1 from ⟨by decide, by decide⟩)
    have f_s198 : FL [4133, 4136, 4132, 4134, 4135, 6080, 6144, 4144, 4145, 4148, 4147, 6208] s0 s198 := by rw [e_s198]; exact f_s188.up (show 4148 ∈ [4133, 4136, 4132, 4134, 4135, 6080, 6144, 4144, 4145, 4148, 4147, 6208] from by decide +kernel)
    have q199 : s198 256 34 = z4 := by rw [e_s198, x_up_i (by decide)]; exact q189
    have q200 : s198 256 43 = z5 := by rw [e_s198, x_up_i (by decide)]; exact q190
    have q201 : s198 256 50 = z6 := by rw [e_s198, x_up_i (by decide)]; exact q191
    have q202 : s198 256 35 = z8 := by rw [e_s198, x_up_i (by decide)]; exact q193
    have q203 : s198 256 38 = z19 := by rw [e_s198, x_up_i (by decide)]; exact q194
    have q204 : s198 256 36 = z19 := by rw [e_s198, x_up_i (by decide)]; exact q195
    have q205 : s198 256 47 = z184 := by rw [e_s198, x_up_i (by decide)]; exact q196
    have q206 : s198 256 48 = z197 := by rw [e_s198, x_up_i (by decide)]; exact e_z197.symm
    have q207 : s198 256 51 = 1 := by rw [e_s198]; exact x_up_same
    have J_s198 : J s198 := by rw [e_s198]; exact J.up J_s188 (show 4148 ∉ LJ from by decide)
    have C0_s198 : AW s198 0 (s0 256 50) (s0 256 47 + s0 256 48 + 1) := by rw [e_s198]; exact AW.up C0_h (show 4148 ∉ [6080, 4140, 4144, 4145, 6208] from by decide +kernel)
    refine x_A k199_92 (fun _ => rfl) ?_
    exact x_iret k199_93 rfl ⟨hG_s198, f_s198, 0, rfl, ⟨by decide, by decide⟩, ⟨⟨fun w => ⟨by rw [show s198 256 51 = 1 by omega, show s198 256 50 = s0 256 50 by omega, show sk (s0 283) (s0 256 34) (s198 256 36) = nx (s0 283) (s0 256 34) (sk (s0 283) (s0 256 34) (s0 256 36)) from by rw [show s198 256 36 = te (s0 283) (s0 256 34) (sk (s0 283) (s0 256 34) (s0 256 36)) by omega]; rfl]; exact pq.jn (by omega), by omega⟩, fun w => by exfalso; omega⟩, ⟨fun hz => by omega, fun hz => AW.ca C0_s198 (by omega) (by omega) (by omega)⟩⟩, J_s198⟩
