set_option maxHeartbeats 8000000 in
theorem E_X11_readLeaf_256 (s0 : xS) (hG0 : GI s0) (p_256_47 : 0 ≤ s0 256 47 ∧ s0 256 47 ≤ 110) (p_256_48 : 0 ≤ s0 256 48 ∧ s0 256 48 ≤ 120) (p_256_36 : 0 ≤ s0 256 36 ∧ s0 256 36 ≤ 160) (p_256_34 : 0 ≤ s0 256 34 ∧ s0 256 34 ≤ 160) (p_256_43 : 0 ≤ s0 256 43 ∧ s0 256 43 ≤ 8) (p_256_38 : 0 ≤ s0 256 38 ∧ s0 256 38 ≤ 160) (p_256_50 : 0 ≤ s0 256 50 ∧ s0 256 50 ≤ 5) (pb : s0 256 47 + s0 256 48 ≤ s0 256 36 ∧ s0 256 36 ≤ s0 256 34 ∧ s0 256 34 ≤ 100 ∧ s0 256 43 ≤ 7) (pc : (s0 256 37 ≠ 0 → s0 256 47 + s0 256 48 < s0 256 38) ∧ s0 256 38 ≤ s0 256 34) (pl : s0 256 37 = wv (s0 283) (s0 256 34) (s0 256 36) ∧ s0 256 38 = rn (s0 283) (s0 256 34) 97 122 (s0 256 36) ∧ sk (s0 283) (s0 256 34) (s0 256 36) = s0 256 36) (i0_J : J s0) (i0_A0 : AW s0 0 (s0 256 50) (s0 256 47 + s0 256 48)) : xe none 197 0 (lv_args 0 [.ref 256]) [] s0 0 0 (fun s' v => GI s' ∧ FL [4133, 4136, 4132, 6080, 6144, 4144, 4145, 4148] s0 s' ∧ ∃ z, v = some (vi z) ∧ (0 ≤ z ∧ z ≤ 5) ∧ ((z = lff (s0 283) (s0 256 34) (s0 256 36) ∧ (z ≠ 0 → s' 256 35 = lfp (s0 283) (s0 256 34) (s0 256 36)) ∧ (z = 0 → sk (s0 283) (s0 256 34) (s' 256 36) = lfn (s0 283) (s0 256 34) (s0 256 36) ∧ s' 256 35 = s0 256 35)) ∧ ((z = 0 → s0 256 37 ≠ 0 ∧ s0 256 38 ≤ s' 256 36 ∧ s' 256 36 ≤ s' 256 34 ∧ s' 256 47 + s' 256 48 ≤ s' 256 36 ∧ s' 256 47 + s' 256 48 = s0 256 47 + s0 256 48 + 1 ∧ s' 256 51 = 0) ∧ (z = 0 → AW s' 1 (s0 256 50) (s0 256 47 + s0 256 48 + 1)))) ∧ J s') := by
  have f0 : FL [4133, 4136, 4132, 6080, 6144, 4144, 4145, 4148] s0 s0 := FL.rf
  show xe none 197 0 [(0, .ref 256)] [] s0 0 0 _
  obtain ⟨z1, e_z1⟩ : ∃ z, z = s0 256 47 := ⟨_, rfl⟩
  have g_z1 : (0 : Int) ≤ s0 256 47 ∧ s0 256 47 ≤ 110 := hG0 256 47
  obtain ⟨z2, e_z2⟩ : ∃ z, z = s0 256 48 := ⟨_, rfl⟩
  have g_z2 : (0 : Int) ≤ s0 256 48 ∧ s0 256 48 ≤ 120 := hG0 256 48
  obtain ⟨z3, e_z3⟩ : ∃ z, z = s0 256 36 := ⟨_, rfl⟩
  have g_z3 : (0 : Int) ≤ s0 256 36 ∧ s0 256 36 ≤ 160 := hG0 256 36
  obtain ⟨z4, e_z4⟩ : ∃ z, z = s0 256 34 := ⟨_, rfl⟩
  have g_z4 : (0 : Int) ≤ s0 256 34 ∧ s0 256 34 ≤ 160 := hG0 256 34
  obtain ⟨z5, e_z5⟩ : ∃ z, z = s0 256 43 := ⟨_, rfl⟩
  have g_z5 : (0 : Int) ≤ s0 256 43 ∧ s0 256 43 ≤ 8 := hG0 256 43
  obtain ⟨z6, e_z6⟩ : ∃ z, z = s0 256 38 := ⟨_, rfl⟩
  have g_z6 : (0 : Int) ≤ s0 256 38 ∧ s0 256 38 ≤ 160 := hG0 256 38
  obtain ⟨z7, e_z7⟩ : ∃ z, z = s0 256 50 := ⟨_, rfl⟩
  have g_z7 : (0 : Int) ≤ s0 256 50 ∧ s0 256 50 ≤ 5 := hG0 256 50
  obtain ⟨z8, e_z8⟩ : ∃ z, z = s0 256 35 := ⟨_, rfl⟩
  have g_z8 : (-2147483648) ≤ s0 256 35 ∧ s0 256 35 ≤ 2147483647 := hG0 256 35
  refine x_A k197_0 (fun _ => rfl) ?_
  refine x_getJ k197_1 (f := 37) rfl (q := 256) (n := 62) (kd := 15) ⟨by decide, rfl⟩ (by decide) rfl ?_
  refine x_topL (fun z9 e_z9 => ?_)
  have b_z9 : in64 z9 := by rw [e_z9]; exact hG0 256 37
  refine x_bipush k197_4 (by decide +kernel) ?_
  refine x_bipush k197_6 (by decide +kernel) ?_
  refine x_bipush k197_8 (by decide +kernel) ?_
  refine x_bipush k197_10 (by decide +kernel) ?_
  refine x_A k197_12 (fun _ => rfl) ?_
  refine x_A k197_13 (fun _ => rfl) ?_
  refine x_callS k197_14 (y := 179) (n := 6) (w0 := 2) (w1 := 6) (as := [vi 109, vi 97, vi 114, vi 107, vi 0, vi 0]) (rest := [vj z9]) (by decide +kernel) rfl rfl rfl rfl (xe_mono (C_X11_code_c109_c97_c114_c107_c0_c0 s0 hG0 109 ⟨by decide, by decide⟩ 97 ⟨by decide, by decide⟩ 114 ⟨by decide, by decide⟩ 107 ⟨by decide, by decide⟩ 0 ⟨by decide, by decide⟩ 0 ⟨by decide, by decide⟩) ?_)
  rintro s11 v ⟨-, t_s11, z10, rfl, b_z10, xp_z10⟩
  rw [t_s11.nil]
  try rw [t_s11.nil] at xp_z10
  show xe none 197 17 [(0, .ref 256)] [vj z10, vj z9] s0 0 0 _
  refine x_lc_ne k197_17 k197_18 (t := 25) rfl b_z9 b_z10 (fun c12 => ?_) (fun c12 => ?_)
  · skip
    refine x_A k197_25 (fun _ => rfl) ?_
    refine x_getJ k197_26 (f := 37) rfl (q := 256) (n := 62) (kd := 15) ⟨by decide, rfl⟩ (by decide) rfl ?_
    refine x_topL (fun z13 e_z13 => ?_)
    have b_z13 : in64 z13 := by rw [e_z13]; exact hG0 256 37
    refine x_bipush k197_29 (by decide +kernel) ?_
    refine x_bipush k197_31 (by decide +kernel) ?_
    refine x_bipush k197_33 (by decide +kernel) ?_
    refine x_bipush k197_35 (by decide +kernel) ?_
    refine x_A k197_37 (fun _ => rfl) ?_
    refine x_A k197_38 (fun _ => rfl) ?_
    refine x_callS k197_39 (y := 179) (n := 6) (w0 := 2) (w1 := 6) (as := [vi 119, vi 111, vi 114, vi 100, vi 0, vi 0]) (rest := [vj z13]) (by decide +kernel) rfl rfl rfl rfl (xe_mono (C_X11_code_c119_c111_c114_c100_c0_c0 s0 hG0 119 ⟨by decide, by decide⟩ 111 ⟨by decide, by decide⟩ 114 ⟨by decide, by decide⟩ 100 ⟨by decide, by decide⟩ 0 ⟨by decide, by decide⟩ 0 ⟨by decide, by decide⟩) ?_)
    rintro s15 v ⟨-, t_s15, z14, rfl, b_z14, xp_z14⟩
    rw [t_s15.nil]
    try rw [t_s15.nil] at xp_z14
    show xe none 197 42 [(0, .ref 256)] [vj z14, vj z13] s0 0 0 _
    refine x_lc_ne k197_42 k197_43 (t := 50) rfl b_z13 b_z14 (fun c16 => ?_) (fun c16 => ?_)
    · skip
      refine x_A k197_50 (fun _ => rfl) ?_
      refine x_getJ k197_51 (f := 37) rfl (q := 256) (n := 62) (kd := 15) ⟨by decide, rfl⟩ (by decide) rfl ?_
      refine x_topL (fun z17 e_z17 => ?_)
      have b_z17 : in64 z17 := by rw [e_z17]; exact hG0 256 37
      refine x_bipush k197_54 (by decide +kernel) ?_
      refine x_bipush k197_56 (by decide +kernel) ?_
      refine x_bipush k197_58 (by decide +kernel) ?_
      refine x_bipush k197_60 (by decide +kernel) ?_
      refine x_A k197_62 (fun _ => rfl) ?_
      refine x_A k197_63 (fun _ => rfl) ?_
      refine x_callS k197_64 (y := 179) (n := 6) (w0 := 2) (w1 := 6) (as := [vi 104, vi 97, vi 110, vi 100, vi 0, vi 0]) (rest := [vj z17]) (by decide +kernel) rfl rfl rfl rfl (xe_mono (C_X11_code_c104_c97_c110_c100_c0_c0 s0 hG0 104 ⟨by decide, by decide⟩ 97 ⟨by decide, by decide⟩ 110 ⟨by decide, by decide⟩ 100 ⟨by decide, by decide⟩ 0 ⟨by decide, by decide⟩ 0 ⟨by decide, by decide⟩) ?_)
      rintro s19 v ⟨-, t_s19, z18, rfl, b_z18, xp_z18⟩
      rw [t_s19.nil]
      try rw [t_s19.nil] at xp_z18
      show xe none 197 67 [(0, .ref 256)] [vj z18, vj z17] s0 0 0 _
      refine x_lc_ne k197_67 k197_68 (t := 75) rfl b_z17 b_z18 (fun c20 => ?_) (fun c20 => ?_)
      · skip
        refine x_A k197_75 (fun _ => rfl) ?_
        refine x_getJ k197_76 (f := 37) rfl (q := 256) (n := 62) (kd := 15) ⟨by decide, rfl⟩ (by decide) rfl ?_
        refine x_topL (fun z21 e_z21 => ?_)
        have b_z21 : in64 z21 := by rw [e_z21]; exact hG0 256 37
        refine x_bipush k197_79 (by decide +kernel) ?_
        refine x_bipush k197_81 (by decide +kernel) ?_
        refine x_bipush k197_83 (by decide +kernel) ?_
        refine x_bipush k197_85 (by decide +kernel) ?_
        refine x_bipush k197_87 (by decide +kernel) ?_
        refine x_bipush k197_89 (by decide +kernel) ?_
        refine x_callS k197_91 (y := 179) (n := 6) (w0 := 2) (w1 := 6) (as := [vi 98, vi 101, vi 102, vi 111, vi 114, vi 101]) (rest := [vj z21]) (by decide +kernel) rfl rfl rfl rfl (xe_mono (C_X11_code_c98_c101_c102_c111_c114_c101 s0 hG0 98 ⟨by decide, by decide⟩ 101 ⟨by decide, by decide⟩ 102 ⟨by decide, by decide⟩ 111 ⟨by decide, by decide⟩ 114 ⟨by decide, by decide⟩ 101 ⟨by decide, by decide⟩) ?_)
        rintro s23 v ⟨-, t_s23, z22, rfl, b_z22, xp_z22⟩
        rw [t_s23.nil]
        try rw [t_s23.nil] at xp_z22
        show xe none 197 94 [(0, .ref 256)] [vj z22, vj z21] s0 0 0 _
        refine x_lc_ne k197_94 k197_95 (t := 103) rfl b_z21 b_z22 (fun c24 => ?_) (fun c24 => ?_)
        · skip
          refine x_A k197_103 (fun _ => rfl) ?_
          refine x_getJ k197_104 (f := 37) rfl (q := 256) (n := 62) (kd := 15) ⟨by decide, rfl⟩ (by decide) rfl ?_
          refine x_topL (fun z25 e_z25 => ?_)
          have b_z25 : in64 z25 := by rw [e_z25]; exact hG0 256 37
          refine x_bipush k197_107 (by decide +kernel) ?_
          refine x_bipush k197_109 (by decide +kernel) ?_
          refine x_A k197_111 (fun _ => rfl) ?_
          refine x_A k197_112 (fun _ => rfl) ?_
          refine x_A k197_113 (fun _ => rfl) ?_
          refine x_A k197_114 (fun _ => rfl) ?_
          refine x_callS k197_115 (y := 179) (n := 6) (w0 := 2) (w1 := 6) (as := [vi 97, vi 116, vi 0, vi 0, vi 0, vi 0]) (rest := [vj z25]) (by decide +kernel) rfl rfl rfl rfl (xe_mono (C_X11_code_c97_c116_c0_c0_c0_c0 s0 hG0 97 ⟨by decide, by decide⟩ 116 ⟨by decide, by decide⟩ 0 ⟨by decide, by decide⟩ 0 ⟨by decide, by decide⟩ 0 ⟨by decide, by decide⟩ 0 ⟨by decide, by decide⟩) ?_)
          rintro s27 v ⟨-, t_s27, z26, rfl, b_z26, xp_z26⟩
          rw [t_s27.nil]
          try rw [t_s27.nil] at xp_z26
          show xe none 197 118 [(0, .ref 256)] [vj z26, vj z25] s0 0 0 _
          refine x_lc_ne k197_118 k197_119 (t := 127) rfl b_z25 b_z26 (fun c28 => ?_) (fun c28 => ?_)
          · skip
            refine x_A k197_127 (fun _ => rfl) ?_
            refine x_istore_n k197_128 (ls' := [(1, vi (-1)), (0, .ref 256)]) (by decide) rfl ?_
            have lkK : lkd (s0 283) (s0 256 34) (s0 256 36) = -1 := by
              have lc := lkw_cs (wv (s0 283) (s0 256 34) (s0 256 36))
              have lk : lkw (wv (s0 283) (s0 256 34) (s0 256 36)) = lkd (s0 283) (s0 256 34) (s0 256 36) := rfl
              clear pc pb
              omega
            refine x_A k197_129 (fun _ => rfl) ?_
            refine x_if_ge k197_130 (t := 143) rfl ⟨by decide, by decide⟩ (fun c29 => by exfalso; omega) (fun c29 => ?_)
            refine x_A k197_133 (fun _ => rfl) ?_
            refine x_A k197_134 (fun _ => rfl) ?_
            refine x_A k197_135 (fun _ => rfl) ?_
            refine x_getI k197_136 (f := 36) rfl (q := 256) (n := 62) (kd := 15) ⟨by decide, rfl⟩ (by decide) rfl ?_
            refine x_rw (e_z3.symm) ?_
            refine x_callV k197_139 (y := 177) (n := 2) (w0 := 0) (w1 := 2) (as := [vi 1, vi z3]) (rest := []) (by decide +kernel) (q := 256) (nq := 62) (kq := 15) ⟨by decide, rfl⟩ rfl rfl rfl rfl (xe_mono (E_X11_fails_256 s0 hG0 1 ⟨by decide, by decide⟩ z3 (by first | exact x_rbe e_z3 g_z3 rfl rfl | exact x_rb g_z3 rfl rfl | exact ⟨by omega, by omega⟩)) ?_)
            rintro s31 v ⟨hG_s31, t_s31, z30, rfl, g_z30, xp_z30⟩
            have f_s31 : FL [4133, 4136, 4132, 6080, 6144, 4144, 4145, 4148] s0 s31 := f0.tr t_s31 (by decide +kernel)
            have q32 : s31 256 47 = z1 := (t_s31 256 47 (show 4144 ∉ [4132] from by decide +kernel)).trans e_z1.symm
            have q33 : s31 256 48 = z2 := (t_s31 256 48 (show 4145 ∉ [4132] from by decide +kernel)).trans e_z2.symm
            have q34 : s31 256 36 = z3 := (t_s31 256 36 (show 4133 ∉ [4132] from by decide +kernel)).trans e_z3.symm
            have q35 : s31 256 34 = z4 := (t_s31 256 34 (show 4131 ∉ [4132] from by decide +kernel)).trans e_z4.symm
            have q36 : s31 256 43 = z5 := (t_s31 256 43 (show 4140 ∉ [4132] from by decide +kernel)).trans e_z5.symm
            have q37 : s31 256 38 = z6 := (t_s31 256 38 (show 4135 ∉ [4132] from by decide +kernel)).trans e_z6.symm
            have q38 : s31 256 50 = z7 := (t_s31 256 50 (show 4147 ∉ [4132] from by decide +kernel)).trans e_z7.symm
            have J_s31 : J s31 := J.fl i0_J t_s31 (by decide +kernel)
            have A0_s31 : AW s31 0 (s0 256 50) (s0 256 47 + s0 256 48) := AW.fl i0_A0 t_s31 (by decide +kernel)
            obtain ⟨z39, e_z39⟩ : ∃ z, z = s31 256 35 := ⟨_, rfl⟩
            have g_z39 : (-2147483648) ≤ s31 256 35 ∧ s31 256 35 ≤ 2147483647 := hG_s31 256 35
            show xe none 197 142 [(1, vi (-1)), (0, .ref 256)] [vi z30] s31 0 0 _
            obtain ⟨z40, e_z40⟩ : ∃ z, z = s31 256 51 := ⟨_, rfl⟩
            have g_z40 : (0 : Int) ≤ s31 256 51 ∧ s31 256 51 ≤ 1 := hG_s31 256 51
            exact x_iret k197_142 rfl ⟨hG_s31, f_s31, z30, rfl, (by first | exact x_rbe e_z30 g_z30 rfl rfl | exact x_rb g_z30 rfl rfl | exact ⟨by omega, by omega⟩), ⟨(by have l0 := lff_k (T := s0 283) (n := s0 256 34) (p := s0 256 36) (by omega); exact ⟨by omega, fun w => by omega, fun w => by omega⟩), ⟨fun hz => by exfalso; omega, fun hz => by exfalso; omega⟩⟩, J_s31⟩
          · skip
            refine x_bipush k197_122 (by decide +kernel) ?_
            refine x_goto k197_124 (t := 128) rfl ?_
            refine x_istore_n k197_128 (ls' := [(1, vi 7), (0, .ref 256)]) (by decide) rfl ?_
            have lkK : lkd (s0 283) (s0 256 34) (s0 256 36) = 5 := by
              have lc := lkw_cs (wv (s0 283) (s0 256 34) (s0 256 36))
              have lk : lkw (wv (s0 283) (s0 256 34) (s0 256 36)) = lkd (s0 283) (s0 256 34) (s0 256 36) := rfl
              clear pc pb
              omega
            have wkA := (wv_kd (T := s0 283) (n := s0 256 34) (p := s0 256 36) (by clear pc pb; omega)).2
            have tlA := (te_le (T := s0 283) (n := s0 256 34) (p := s0 256 36)).1
            have tlB := (te_le (T := s0 283) (n := s0 256 34) (p := s0 256 36)).2.1 (by omega)
            obtain ⟨pc1, pc2⟩ := pc
            specialize pc1 (by omega)
            refine x_A k197_129 (fun _ => rfl) ?_
            refine x_if_ge k197_130 (t := 143) rfl ⟨by decide, by decide⟩ (fun c41 => ?_) (fun c41 => by exfalso; omega)
            refine x_A k197_143 (fun _ => rfl) ?_
            refine x_A k197_144 (fun _ => rfl) ?_
            refine x_getI k197_145 (f := 38) rfl (q := 256) (n := 62) (kd := 15) ⟨by decide, rfl⟩ (by decide) rfl ?_
            refine x_rw (e_z6.symm) ?_
            refine x_putI k197_148 (f := 36) rfl (q := 256) (n := 62) (kd := 15) ⟨by decide, rfl⟩ rfl rfl rfl ?_
            refine x_nh (fun s42 e_s42 => ?_)
            have hG_s42 : GI s42 := by rw [e_s42]; exact hG0.up (show 0 ≤ z6 ∧ z6 ≤ 160 from (by first | exact x_rbe e_z6 g_z6 rfl rfl | exact x_rb g_z6 rfl rfl | exact ⟨by omega, by omega⟩))
            have f_s42 : FL [4133, 4136, 4132, 6080, 6144, 4144, 4145, 4148] s0 s42 := by rw [e_s42]; exact f0.up (show 4133 ∈ [4133, 4136, 4132, 6080, 6144, 4144, 4145, 4148] from by decide +kernel)
            have q43 : s42 256 47 = z1 := by rw [e_s42, x_up_i (by decide)]; exact e_z1.symm
            have q44 : s42 256 48 = z2 := by rw [e_s42, x_up_i (by decide)]; exact e_z2.symm
            have q45 : s42 256 34 = z4 := by rw [e_s42, x_up_i (by decide)]; exact e_z4.symm
            have q46 : s42 256 43 = z5 := by rw [e_s42, x_up_i (by decide)]; exact e_z5.symm
            have q47 : s42 256 38 = z6 := by rw [e_s42, x_up_i (by decide)]; exact e_z6.symm
            have q48 : s42 256 50 = z7 := by rw [e_s42, x_up_i (by decide)]; exact e_z7.symm
            have q49 : s42 256 35 = z8 := by rw [e_s42, x_up_i (by decide)]; exact e_z8.symm
            have q50 : s42 256 36 = z6 := by rw [e_s42]; exact x_up_same
            have J_s42 : J s42 := by rw [e_s42]; exact J.up i0_J (show 4133 ∉ LJ from by decide)
            have A0_s42 : AW s42 0 (s0 256 50) (s0 256 47 + s0 256 48) := by rw [e_s42]; exact AW.up i0_A0 (show 4133 ∉ [6080, 4140, 4144, 4145, 6208] from by decide +kernel)
            refine x_A k197_151 (fun _ => rfl) ?_
            refine x_A k197_152 (fun _ => rfl) ?_
            refine x_A k197_153 (fun _ => rfl) ?_
            refine x_A k197_154 (fun _ => rfl) ?_
            refine x_ic_ne k197_155 (t := 163) rfl ⟨by decide, by decide⟩ ⟨by decide, by decide⟩ (fun c51 => ?_) (fun c51 => by exfalso; omega)
            refine x_A k197_163 (fun _ => rfl) ?_
            refine x_A k197_164 (fun _ => rfl) ?_
            refine x_ic_ne k197_165 (t := 172) rfl ⟨by decide, by decide⟩ ⟨by decide, by decide⟩ (fun c52 => ?_) (fun c52 => by exfalso; omega)
            refine x_A k197_172 (fun _ => rfl) ?_
            refine x_A k197_173 (fun _ => rfl) ?_
            refine x_ic_ne k197_174 (t := 182) rfl ⟨by decide, by decide⟩ ⟨by decide, by decide⟩ (fun c53 => ?_) (fun c53 => by exfalso; omega)
            refine x_A k197_182 (fun _ => rfl) ?_
            refine x_bipush k197_183 (by decide +kernel) ?_
            refine x_ic_ne k197_185 (t := 194) rfl ⟨by decide, by decide⟩ ⟨by decide, by decide⟩ (fun c54 => ?_) (fun c54 => by exfalso; omega)
            refine x_bipush k197_194 (by decide +kernel) ?_
            refine x_A k197_196 (fun _ => rfl) ?_
            refine x_A k197_197 (fun _ => rfl) ?_
            refine x_callV k197_198 (y := 180) (n := 4) (w0 := 0) (w1 := 4) (as := [vi 0, vi 9, vi 3, vi 2]) (rest := []) (by decide +kernel) (q := 256) (nq := 62) (kq := 15) ⟨by decide, rfl⟩ rfl rfl rfl rfl (xe_mono (E_X11_readNumber_256 s42 hG_s42 0 ⟨by decide, by decide⟩ 9 ⟨by decide, by decide⟩ 3 ⟨by decide, by decide⟩ 2 ⟨by decide, by decide⟩ (by omega)) ?_)
            rintro s56 v ⟨hG_s56, t_s56, z55, rfl, g_z55, xp_z55⟩
            have f_s56 : FL [4133, 4136, 4132, 6080, 6144, 4144, 4145, 4148] s0 s56 := f_s42.tr t_s56 (by decide +kernel)
            have q57 : s56 256 47 = z1 := (t_s56 256 47 (show 4144 ∉ [4133, 4136, 4132] from by decide +kernel)).trans q43
            have q58 : s56 256 48 = z2 := (t_s56 256 48 (show 4145 ∉ [4133, 4136, 4132] from by decide +kernel)).trans q44
            have q59 : s56 256 34 = z4 := (t_s56 256 34 (show 4131 ∉ [4133, 4136, 4132] from by decide +kernel)).trans q45
            have q60 : s56 256 43 = z5 := (t_s56 256 43 (show 4140 ∉ [4133, 4136, 4132] from by decide +kernel)).trans q46
            have q61 : s56 256 38 = z6 := (t_s56 256 38 (show 4135 ∉ [4133, 4136, 4132] from by decide +kernel)).trans q47
            have q62 : s56 256 50 = z7 := (t_s56 256 50 (show 4147 ∉ [4133, 4136, 4132] from by decide +kernel)).trans q48
            have J_s56 : J s56 := J.fl J_s42 t_s56 (by decide +kernel)
            have A0_s56 : AW s56 0 (s0 256 50) (s0 256 47 + s0 256 48) := AW.fl A0_s42 t_s56 (by decide +kernel)
            obtain ⟨z63, e_z63⟩ : ∃ z, z = s56 256 36 := ⟨_, rfl⟩
            have g_z63 : (0 : Int) ≤ s56 256 36 ∧ s56 256 36 ≤ 160 := hG_s56 256 36
            obtain ⟨z64, e_z64⟩ : ∃ z, z = s56 256 39 := ⟨_, rfl⟩
            have g_z64 : (0 : Int) ≤ s56 256 39 ∧ s56 256 39 ≤ 1100000 := hG_s56 256 39
            obtain ⟨z65, e_z65⟩ : ∃ z, z = s56 256 35 := ⟨_, rfl⟩
            have g_z65 : (-2147483648) ≤ s56 256 35 ∧ s56 256 35 ≤ 2147483647 := hG_s56 256 35
            show xe none 197 201 [(1, vi 7), (0, .ref 256)] [vi z55] s56 0 0 _
            have n1 := xp_z55
            clear xp_z55
            rw [show s42 283 = s0 283 from funext fun i => f_s42 283 i (show 5824 ∉ [4133, 4136, 4132, 6080, 6144, 4144, 4145, 4148] from by decide +kernel), show s42 256 34 = s0 256 34 from f_s42 256 34 (show 4131 ∉ [4133, 4136, 4132, 6080, 6144, 4144, 4145, 4148] from by decide +kernel), show s42 256 36 = te (s0 283) (s0 256 34) (s0 256 36) by omega] at n1
            rw [show sk (s0 283) (s0 256 34) (te (s0 283) (s0 256 34) (s0 256 36)) = nx (s0 283) (s0 256 34) (s0 256 36) from rfl] at n1
            refine x_istore_n k197_201 (ls' := [(2, vi z55), (1, vi 7), (0, .ref 256)]) (by decide) rfl ?_
            refine x_A k197_202 (fun _ => rfl) ?_
            refine x_getI k197_203 (f := 39) rfl (q := 256) (n := 62) (kd := 15) ⟨by decide, rfl⟩ (by decide) rfl ?_
            refine x_rw (e_z64.symm) ?_
            refine x_istore_n k197_206 (ls' := [(3, vi z64), (2, vi z55), (1, vi 7), (0, .ref 256)]) (by decide) rfl ?_
            refine x_A k197_207 (fun _ => rfl) ?_
            refine x_A k197_208 (fun _ => rfl) ?_
            refine x_ic_ne k197_209 (t := 236) rfl ⟨by decide, by decide⟩ ⟨by decide, by decide⟩ (fun c66 => ?_) (fun c66 => by exfalso; omega)
            refine x_A k197_236 (fun _ => rfl) ?_
            refine x_if_ne k197_237 (t := 256) rfl (by first | exact x_rbe e_z55 g_z55 rfl rfl | exact x_rb g_z55 rfl rfl | exact ⟨by omega, by omega⟩) (fun c67 => ?_) (fun c67 => ?_)
            · skip
              obtain ⟨n1z, -, n1c, -, -, n1f, n1g⟩ := n1
              specialize n1c (by omega)
              specialize n1g (by omega)
              refine x_A k197_256 (fun _ => rfl) ?_
              obtain ⟨z68, e_z68⟩ : ∃ z, z = s56 256 51 := ⟨_, rfl⟩
              have g_z68 : (0 : Int) ≤ s56 256 51 ∧ s56 256 51 ≤ 1 := hG_s56 256 51
              exact x_iret k197_257 rfl ⟨hG_s56, f_s56, z55, rfl, (by first | exact x_rbe e_z55 g_z55 rfl rfl | exact x_rb g_z55 rfl rfl | exact ⟨by omega, by omega⟩), ⟨(by have lh : lhi (lkd (s0 283) (s0 256 34) (s0 256 36)) = 9 := (by rw [lkK]; rfl); have l1 := lff_1 (T := s0 283) (n := s0 256 34) (p := s0 256 36) (by omega) (by rw [lh]; omega); rw [lh] at l1; exact ⟨by omega, fun w => by omega, fun w => by omega⟩), ⟨fun hz => by exfalso; omega, fun hz => by exfalso; omega⟩⟩, J_s56⟩
            · skip
              obtain ⟨n1z, n1a, -, n1d, n1e, n1f, n1g⟩ := n1
              specialize n1a (by omega)
              specialize n1d (by omega)
              specialize n1e (by omega)
              specialize n1g (by omega)
              refine x_A k197_240 (fun _ => rfl) ?_
              refine x_A k197_241 (fun _ => rfl) ?_
              refine x_A k197_242 (fun _ => rfl) ?_
              refine x_callV k197_243 (y := 194) (n := 2) (w0 := 0) (w1 := 2) (as := [vi 7, vi z64]) (rest := []) (by decide +kernel) (q := 256) (nq := 62) (kq := 15) ⟨by decide, rfl⟩ rfl rfl rfl rfl (xe_mono (C_X11_put_256 s56 hG_s56 7 ⟨by decide, by decide⟩ z64 (by first | exact x_rbe e_z64 g_z64 rfl rfl | exact x_rb g_z64 rfl rfl | exact ⟨by omega, by omega⟩) ⟨by omega, by omega⟩ ⟨by omega, by omega⟩ J_s56) ?_)
              rintro s70 v ⟨hG_s70, t_s70, rfl, xp_z69, J_s70⟩
              have f_s70 : FL [4133, 4136, 4132, 6080, 6144, 4144, 4145, 4148] s0 s70 := f_s56.tr t_s70 (by decide +kernel)
              have q71 : s70 256 48 = z2 := (t_s70 256 48 (show 4145 ∉ [6080, 6144, 4144] from by decide +kernel)).trans q58
              have q72 : s70 256 34 = z4 := (t_s70 256 34 (show 4131 ∉ [6080, 6144, 4144] from by decide +kernel)).trans q59
              have q73 : s70 256 43 = z5 := (t_s70 256 43 (show 4140 ∉ [6080, 6144, 4144] from by decide +kernel)).trans q60
              have q74 : s70 256 38 = z6 := (t_s70 256 38 (show 4135 ∉ [6080, 6144, 4144] from by decide +kernel)).trans q61
              have q75 : s70 256 50 = z7 := (t_s70 256 50 (show 4147 ∉ [6080, 6144, 4144] from by decide +kernel)).trans q62
              have q76 : s70 256 36 = z63 := (t_s70 256 36 (show 4133 ∉ [6080, 6144, 4144] from by decide +kernel)).trans e_z63.symm
              have q77 : s70 256 39 = z64 := (t_s70 256 39 (show 4136 ∉ [6080, 6144, 4144] from by decide +kernel)).trans e_z64.symm
              have q78 : s70 256 35 = z65 := (t_s70 256 35 (show 4132 ∉ [6080, 6144, 4144] from by decide +kernel)).trans e_z65.symm
              show xe none 197 246 [(3, vi z64), (2, vi z55), (1, vi 7), (0, .ref 256)] [] s70 0 0 _
              obtain ⟨z79, e_z79⟩ : ∃ z, z = s70 256 47 := ⟨_, rfl⟩
              have g_z79 : (0 : Int) ≤ s70 256 47 ∧ s70 256 47 ≤ 110 := hG_s70 256 47
              have A1_l : AW s70 1 (s0 256 50) (s0 256 47 + s0 256 48 + 1) := AW.leaf A0_s56 (by omega) (by omega) (by omega) (by omega) (by omega) (by omega) (funext fun i => t_s70 289 i (show 6208 ∉ _ from by decide)) xp_z69.2
              have s_l := A1_l.2.2.2
              have AW1_l := AW.rf A1_l
              refine x_A k197_246 (fun _ => rfl) ?_
              refine x_A k197_247 (fun _ => rfl) ?_
              refine x_callV k197_248 (y := 195) (n := 1) (w0 := 0) (w1 := 1) (as := [vi 2]) (rest := []) (by decide +kernel) (q := 256) (nq := 62) (kq := 15) ⟨by decide, rfl⟩ rfl rfl rfl rfl (xe_mono (C_X11_work_256 s70 hG_s70 2 ⟨by decide, by decide⟩ ⟨by omega, by omega⟩ ⟨by omega, by omega⟩ ⟨by omega, by omega⟩ (by omega) (by omega) J_s70 AW1_l) ?_)
              rintro s81 v ⟨hG_s81, t_s81, rfl, xp_z80, J_s81, AW1_s81⟩
              have f_s81 : FL [4133, 4136, 4132, 6080, 6144, 4144, 4145, 4148] s0 s81 := f_s70.tr t_s81 (by decide +kernel)
              have q82 : s81 256 34 = z4 := (t_s81 256 34 (show 4131 ∉ [6080, 6144, 4144, 4145] from by decide +kernel)).trans q72
              have q83 : s81 256 43 = z5 := (t_s81 256 43 (show 4140 ∉ [6080, 6144, 4144, 4145] from by decide +kernel)).trans q73
              have q84 : s81 256 38 = z6 := (t_s81 256 38 (show 4135 ∉ [6080, 6144, 4144, 4145] from by decide +kernel)).trans q74
              have q85 : s81 256 50 = z7 := (t_s81 256 50 (show 4147 ∉ [6080, 6144, 4144, 4145] from by decide +kernel)).trans q75
              have q86 : s81 256 36 = z63 := (t_s81 256 36 (show 4133 ∉ [6080, 6144, 4144, 4145] from by decide +kernel)).trans q76
              have q87 : s81 256 39 = z64 := (t_s81 256 39 (show 4136 ∉ [6080, 6144, 4144, 4145] from by decide +kernel)).trans q77
              have q88 : s81 256 35 = z65 := (t_s81 256 35 (show 4132 ∉ [6080, 6144, 4144, 4145] from by decide +kernel)).trans q78
              show xe none 197 251 [(3, vi z64), (2, vi z55), (1, vi 7), (0, .ref 256)] [] s81 0 0 _
              have A1_w : AW s81 1 (s0 256 50) (s0 256 47 + s0 256 48 + 1) := AW.tr A1_l AW1_s81
              have s_A1_w := A1_w.2.2.2
              obtain ⟨z89, e_z89⟩ : ∃ z, z = s81 256 47 := ⟨_, rfl⟩
              have g_z89 : (0 : Int) ≤ s81 256 47 ∧ s81 256 47 ≤ 110 := hG_s81 256 47
              obtain ⟨z90, e_z90⟩ : ∃ z, z = s81 256 48 := ⟨_, rfl⟩
              have g_z90 : (0 : Int) ≤ s81 256 48 ∧ s81 256 48 ≤ 120 := hG_s81 256 48
              refine x_A k197_251 (fun _ => rfl) ?_
              refine x_A k197_252 (fun _ => rfl) ?_
              refine x_putZ k197_253 (f := 51) rfl (q := 256) (n := 62) (kd := 15) ⟨by decide, rfl⟩ rfl rfl rfl ⟨by omega, by omega⟩ ?_
              refine x_nh (fun s91 e_s91 => ?_)
              have hG_s91 : GI s91 := by rw [e_s91]; exact hG_s81.up (show 0 ≤ 0 ∧ 0 ≤ 1 from ⟨by decide, by decide⟩)
              have f_s91 : FL [4133, 4136, 4132, 6080, 6144, 4144, 4145, 4148] s0 s91 := by rw [e_s91]; exact f_s81.up (show 4148 ∈ [4133, 4136, 4132, 6080, 6144, 4144, 4145, 4148] from by decide +kernel)
              have q92 : s91 256 34 = z4 := by rw [e_s91, x_up_i (by decide)]; exact q82
              have q93 : s91 256 43 = z5 := by rw [e_s91, x_up_i (by decide)]; exact q83
              have q94 : s91 256 38 = z6 := by rw [e_s91, x_up_i (by decide)]; exact q84
              have q95 : s91 256 50 = z7 := by rw [e_s91, x_up_i (by decide)]; exact q85
              have q96 : s91 256 36 = z63 := by rw [e_s91, x_up_i (by decide)]; exact q86
              have q97 : s91 256 39 = z64 := by rw [e_s91, x_up_i (by decide)]; exact q87
              have q98 : s91 256 35 = z65 := by rw [e_s91, x_up_i (by decide)]; exact q88
              have q99 : s91 256 47 = z89 := by rw [e_s91, x_up_i (by decide)]; exact e_z89.symm
              have q100 : s91 256 48 = z90 := by rw [e_s91, x_up_i (by decide)]; exact e_z90.symm
              have q101 : s91 256 51 = 0 := by rw [e_s91]; exact x_up_same
              have J_s91 : J s91 := by rw [e_s91]; exact J.up J_s81 (show 4148 ∉ LJ from by decide)
              have A1_s91 : AW s91 1 (s0 256 50) (s0 256 47 + s0 256 48 + 1) := by rw [e_s91]; exact AW.up A1_w (show 4148 ∉ [6080, 4140, 4144, 4145, 6208] from by decide +kernel)
              refine x_A k197_256 (fun _ => rfl) ?_
              exact x_iret k197_257 rfl ⟨hG_s91, f_s91, z55, rfl, (by first | exact x_rbe e_z55 g_z55 rfl rfl | exact x_rb g_z55 rfl rfl | exact ⟨by omega, by omega⟩), ⟨(by have lh : lhi (lkd (s0 283) (s0 256 34) (s0 256 36)) = 9 := (by rw [lkK]; rfl); have l0 := lff_0 (T := s0 283) (n := s0 256 34) (p := s0 256 36) (by omega) (by omega) (by rw [lh]; omega); exact ⟨by omega, fun w => by omega, fun w => ⟨by rw [show s91 256 36 = te (s0 283) (s0 256 34) (nx (s0 283) (s0 256 34) (s0 256 36)) by omega, l0.2]; rfl, by omega⟩⟩), ⟨fun hz => by omega, fun hz => A1_s91⟩⟩, J_s91⟩
        · skip
          refine x_bipush k197_98 (by decide +kernel) ?_
          refine x_goto k197_100 (t := 128) rfl ?_
          refine x_istore_n k197_128 (ls' := [(1, vi 6), (0, .ref 256)]) (by decide) rfl ?_
          have lkK : lkd (s0 283) (s0 256 34) (s0 256 36) = 4 := by
            have lc := lkw_cs (wv (s0 283) (s0 256 34) (s0 256 36))
            have lk : lkw (wv (s0 283) (s0 256 34) (s0 256 36)) = lkd (s0 283) (s0 256 34) (s0 256 36) := rfl
            clear pc pb
            omega
          have wkA := (wv_kd (T := s0 283) (n := s0 256 34) (p := s0 256 36) (by clear pc pb; omega)).2
          have tlA := (te_le (T := s0 283) (n := s0 256 34) (p := s0 256 36)).1
          have tlB := (te_le (T := s0 283) (n := s0 256 34) (p := s0 256 36)).2.1 (by omega)
          obtain ⟨pc1, pc2⟩ := pc
          specialize pc1 (by omega)
          refine x_A k197_129 (fun _ => rfl) ?_
          refine x_if_ge k197_130 (t := 143) rfl ⟨by decide, by decide⟩ (fun c102 => ?_) (fun c102 => by exfalso; omega)
          refine x_A k197_143 (fun _ => rfl) ?_
          refine x_A k197_144 (fun _ => rfl) ?_
          refine x_getI k197_145 (f := 38) rfl (q := 256) (n := 62) (kd := 15) ⟨by decide, rfl⟩ (by decide) rfl ?_
          refine x_rw (e_z6.symm) ?_
          refine x_putI k197_148 (f := 36) rfl (q := 256) (n := 62) (kd := 15) ⟨by decide, rfl⟩ rfl rfl rfl ?_
          refine x_nh (fun s103 e_s103 => ?_)
          have hG_s103 : GI s103 := by rw [e_s103]; exact hG0.up (show 0 ≤ z6 ∧ z6 ≤ 160 from (by first | exact x_rbe e_z6 g_z6 rfl rfl | exact x_rb g_z6 rfl rfl | exact ⟨by omega, by omega⟩))
          have f_s103 : FL [4133, 4136, 4132, 6080, 6144, 4144, 4145, 4148] s0 s103 := by rw [e_s103]; exact f0.up (show 4133 ∈ [4133, 4136, 4132, 6080, 6144, 4144, 4145, 4148] from by decide +kernel)
          have q104 : s103 256 47 = z1 := by rw [e_s103, x_up_i (by decide)]; exact e_z1.symm
          have q105 : s103 256 48 = z2 := by rw [e_s103, x_up_i (by decide)]; exact e_z2.symm
          have q106 : s103 256 34 = z4 := by rw [e_s103, x_up_i (by decide)]; exact e_z4.symm
          have q107 : s103 256 43 = z5 := by rw [e_s103, x_up_i (by decide)]; exact e_z5.symm
          have q108 : s103 256 38 = z6 := by rw [e_s103, x_up_i (by decide)]; exact e_z6.symm
          have q109 : s103 256 50 = z7 := by rw [e_s103, x_up_i (by decide)]; exact e_z7.symm
          have q110 : s103 256 35 = z8 := by rw [e_s103, x_up_i (by decide)]; exact e_z8.symm
          have q111 : s103 256 36 = z6 := by rw [e_s103]; exact x_up_same
          have J_s103 : J s103 := by rw [e_s103]; exact J.up i0_J (show 4133 ∉ LJ from by decide)
          have A0_s103 : AW s103 0 (s0 256 50) (s0 256 47 + s0 256 48) := by rw [e_s103]; exact AW.up i0_A0 (show 4133 ∉ [6080, 4140, 4144, 4145, 6208] from by decide +kernel)
          refine x_A k197_151 (fun _ => rfl) ?_
          refine x_A k197_152 (fun _ => rfl) ?_
          refine x_A k197_153 (fun _ => rfl) ?_
          refine x_A k197_154 (fun _ => rfl) ?_
          refine x_ic_ne k197_155 (t := 163) rfl ⟨by decide, by decide⟩ ⟨by decide, by decide⟩ (fun c112 => ?_) (fun c112 => by exfalso; omega)
          refine x_A k197_163 (fun _ => rfl) ?_
          refine x_A k197_164 (fun _ => rfl) ?_
          refine x_ic_ne k197_165 (t := 172) rfl ⟨by decide, by decide⟩ ⟨by decide, by decide⟩ (fun c113 => ?_) (fun c113 => by exfalso; omega)
          refine x_A k197_172 (fun _ => rfl) ?_
          refine x_A k197_173 (fun _ => rfl) ?_
          refine x_ic_ne k197_174 (t := 182) rfl ⟨by decide, by decide⟩ ⟨by decide, by decide⟩ (fun c114 => ?_) (fun c114 => by exfalso; omega)
          refine x_A k197_182 (fun _ => rfl) ?_
          refine x_bipush k197_183 (by decide +kernel) ?_
          refine x_ic_ne k197_185 (t := 194) rfl ⟨by decide, by decide⟩ ⟨by decide, by decide⟩ (fun c115 => by exfalso; omega) (fun c115 => ?_)
          refine x_sipush k197_188 (by decide +kernel) ?_
          refine x_goto k197_191 (t := 196) rfl ?_
          refine x_A k197_196 (fun _ => rfl) ?_
          refine x_A k197_197 (fun _ => rfl) ?_
          refine x_callV k197_198 (y := 180) (n := 4) (w0 := 0) (w1 := 4) (as := [vi 0, vi 999, vi 3, vi 2]) (rest := []) (by decide +kernel) (q := 256) (nq := 62) (kq := 15) ⟨by decide, rfl⟩ rfl rfl rfl rfl (xe_mono (E_X11_readNumber_256 s103 hG_s103 0 ⟨by decide, by decide⟩ 999 ⟨by decide, by decide⟩ 3 ⟨by decide, by decide⟩ 2 ⟨by decide, by decide⟩ (by omega)) ?_)
          rintro s117 v ⟨hG_s117, t_s117, z116, rfl, g_z116, xp_z116⟩
          have f_s117 : FL [4133, 4136, 4132, 6080, 6144, 4144, 4145, 4148] s0 s117 := f_s103.tr t_s117 (by decide +kernel)
          have q118 : s117 256 47 = z1 := (t_s117 256 47 (show 4144 ∉ [4133, 4136, 4132] from by decide +kernel)).trans q104
          have q119 : s117 256 48 = z2 := (t_s117 256 48 (show 4145 ∉ [4133, 4136, 4132] from by decide +kernel)).trans q105
          have q120 : s117 256 34 = z4 := (t_s117 256 34 (show 4131 ∉ [4133, 4136, 4132] from by decide +kernel)).trans q106
          have q121 : s117 256 43 = z5 := (t_s117 256 43 (show 4140 ∉ [4133, 4136, 4132] from by decide +kernel)).trans q107
          have q122 : s117 256 38 = z6 := (t_s117 256 38 (show 4135 ∉ [4133, 4136, 4132] from by decide +kernel)).trans q108
          have q123 : s117 256 50 = z7 := (t_s117 256 50 (show 4147 ∉ [4133, 4136, 4132] from by decide +kernel)).trans q109
          have J_s117 : J s117 := J.fl J_s103 t_s117 (by decide +kernel)
          have A0_s117 : AW s117 0 (s0 256 50) (s0 256 47 + s0 256 48) := AW.fl A0_s103 t_s117 (by decide +kernel)
          obtain ⟨z124, e_z124⟩ : ∃ z, z = s117 256 36 := ⟨_, rfl⟩
          have g_z124 : (0 : Int) ≤ s117 256 36 ∧ s117 256 36 ≤ 160 := hG_s117 256 36
          obtain ⟨z125, e_z125⟩ : ∃ z, z = s117 256 39 := ⟨_, rfl⟩
          have g_z125 : (0 : Int) ≤ s117 256 39 ∧ s117 256 39 ≤ 1100000 := hG_s117 256 39
          obtain ⟨z126, e_z126⟩ : ∃ z, z = s117 256 35 := ⟨_, rfl⟩
          have g_z126 : (-2147483648) ≤ s117 256 35 ∧ s117 256 35 ≤ 2147483647 := hG_s117 256 35
          show xe none 197 201 [(1, vi 6), (0, .ref 256)] [vi z116] s117 0 0 _
          have n1 := xp_z116
          clear xp_z116
          rw [show s103 283 = s0 283 from funext fun i => f_s103 283 i (show 5824 ∉ [4133, 4136, 4132, 6080, 6144, 4144, 4145, 4148] from by decide +kernel), show s103 256 34 = s0 256 34 from f_s103 256 34 (show 4131 ∉ [4133, 4136, 4132, 6080, 6144, 4144, 4145, 4148] from by decide +kernel), show s103 256 36 = te (s0 283) (s0 256 34) (s0 256 36) by omega] at n1
          rw [show sk (s0 283) (s0 256 34) (te (s0 283) (s0 256 34) (s0 256 36)) = nx (s0 283) (s0 256 34) (s0 256 36) from rfl] at n1
          refine x_istore_n k197_201 (ls' := [(2, vi z116), (1, vi 6), (0, .ref 256)]) (by decide) rfl ?_
          refine x_A k197_202 (fun _ => rfl) ?_
          refine x_getI k197_203 (f := 39) rfl (q := 256) (n := 62) (kd := 15) ⟨by decide, rfl⟩ (by decide) rfl ?_
          refine x_rw (e_z125.symm) ?_
          refine x_istore_n k197_206 (ls' := [(3, vi z125), (2, vi z116), (1, vi 6), (0, .ref 256)]) (by decide) rfl ?_
          refine x_A k197_207 (fun _ => rfl) ?_
          refine x_A k197_208 (fun _ => rfl) ?_
          refine x_ic_ne k197_209 (t := 236) rfl ⟨by decide, by decide⟩ ⟨by decide, by decide⟩ (fun c127 => ?_) (fun c127 => by exfalso; omega)
          refine x_A k197_236 (fun _ => rfl) ?_
          refine x_if_ne k197_237 (t := 256) rfl (by first | exact x_rbe e_z116 g_z116 rfl rfl | exact x_rb g_z116 rfl rfl | exact ⟨by omega, by omega⟩) (fun c128 => ?_) (fun c128 => ?_)
          · skip
            obtain ⟨n1z, -, n1c, -, -, n1f, n1g⟩ := n1
            specialize n1c (by omega)
            specialize n1g (by omega)
            refine x_A k197_256 (fun _ => rfl) ?_
            obtain ⟨z129, e_z129⟩ : ∃ z, z = s117 256 51 := ⟨_, rfl⟩
            have g_z129 : (0 : Int) ≤ s117 256 51 ∧ s117 256 51 ≤ 1 := hG_s117 256 51
            exact x_iret k197_257 rfl ⟨hG_s117, f_s117, z116, rfl, (by first | exact x_rbe e_z116 g_z116 rfl rfl | exact x_rb g_z116 rfl rfl | exact ⟨by omega, by omega⟩), ⟨(by have lh : lhi (lkd (s0 283) (s0 256 34) (s0 256 36)) = 999 := (by rw [lkK]; rfl); have l1 := lff_1 (T := s0 283) (n := s0 256 34) (p := s0 256 36) (by omega) (by rw [lh]; omega); rw [lh] at l1; exact ⟨by omega, fun w => by omega, fun w => by omega⟩), ⟨fun hz => by exfalso; omega, fun hz => by exfalso; omega⟩⟩, J_s117⟩
          · skip
            obtain ⟨n1z, n1a, -, n1d, n1e, n1f, n1g⟩ := n1
            specialize n1a (by omega)
            specialize n1d (by omega)
            specialize n1e (by omega)
            specialize n1g (by omega)
            refine x_A k197_240 (fun _ => rfl) ?_
            refine x_A k197_241 (fun _ => rfl) ?_
            refine x_A k197_242 (fun _ => rfl) ?_
            refine x_callV k197_243 (y := 194) (n := 2) (w0 := 0) (w1 := 2) (as := [vi 6, vi z125]) (rest := []) (by decide +kernel) (q := 256) (nq := 62) (kq := 15) ⟨by decide, rfl⟩ rfl rfl rfl rfl (xe_mono (C_X11_put_256 s117 hG_s117 6 ⟨by decide, by decide⟩ z125 (by first | exact x_rbe e_z125 g_z125 rfl rfl | exact x_rb g_z125 rfl rfl | exact ⟨by omega, by omega⟩) ⟨by omega, by omega⟩ ⟨by omega, by omega⟩ J_s117) ?_)
            rintro s131 v ⟨hG_s131, t_s131, rfl, xp_z130, J_s131⟩
            have f_s131 : FL [4133, 4136, 4132, 6080, 6144, 4144, 4145, 4148] s0 s131 := f_s117.tr t_s131 (by decide +kernel)
            have q132 : s131 256 48 = z2 := (t_s131 256 48 (show 4145 ∉ [6080, 6144, 4144] from by decide +kernel)).trans q119
            have q133 : s131 256 34 = z4 := (t_s131 256 34 (show 4131 ∉ [6080, 6144, 4144] from by decide +kernel)).trans q120
            have q134 : s131 256 43 = z5 := (t_s131 256 43 (show 4140 ∉ [6080, 6144, 4144] from by decide +kernel)).trans q121
            have q135 : s131 256 38 = z6 := (t_s131 256 38 (show 4135 ∉ [6080, 6144, 4144] from by decide +kernel)).trans q122
            have q136 : s131 256 50 = z7 := (t_s131 256 50 (show 4147 ∉ [6080, 6144, 4144] from by decide +kernel)).trans q123
            have q137 : s131 256 36 = z124 := (t_s131 256 36 (show 4133 ∉ [6080, 6144, 4144] from by decide +kernel)).trans e_z124.symm
            have q138 : s131 256 39 = z125 := (t_s131 256 39 (show 4136 ∉ [6080, 6144, 4144] from by decide +kernel)).trans e_z125.symm
            have q139 : s131 256 35 = z126 := (t_s131 256 35 (show 4132 ∉ [6080, 6144, 4144] from by decide +kernel)).trans e_z126.symm
            show xe none 197 246 [(3, vi z125), (2, vi z116), (1, vi 6), (0, .ref 256)] [] s131 0 0 _
            obtain ⟨z140, e_z140⟩ : ∃ z, z = s131 256 47 := ⟨_, rfl⟩
            have g_z140 : (0 : Int) ≤ s131 256 47 ∧ s131 256 47 ≤ 110 := hG_s131 256 47
            have A1_l : AW s131 1 (s0 256 50) (s0 256 47 + s0 256 48 + 1) := AW.leaf A0_s117 (by omega) (by omega) (by omega) (by omega) (by omega) (by omega) (funext fun i => t_s131 289 i (show 6208 ∉ _ from by decide)) xp_z130.2
            have s_l := A1_l.2.2.2
            have AW1_l := AW.rf A1_l
            refine x_A k197_246 (fun _ => rfl) ?_
            refine x_A k197_247 (fun _ => rfl) ?_
            refine x_callV k197_248 (y := 195) (n := 1) (w0 := 0) (w1 := 1) (as := [vi 2]) (rest := []) (by decide +kernel) (q := 256) (nq := 62) (kq := 15) ⟨by decide, rfl⟩ rfl rfl rfl rfl (xe_mono (C_X11_work_256 s131 hG_s131 2 ⟨by decide, by decide⟩ ⟨by omega, by omega⟩ ⟨by omega, by omega⟩ ⟨by omega, by omega⟩ (by omega) (by omega) J_s131 AW1_l) ?_)
            rintro s142 v ⟨hG_s142, t_s142, rfl, xp_z141, J_s142, AW1_s142⟩
            have f_s142 : FL [4133, 4136, 4132, 6080, 6144, 4144, 4145, 4148] s0 s142 := f_s131.tr t_s142 (by decide +kernel)
            have q143 : s142 256 34 = z4 := (t_s142 256 34 (show 4131 ∉ [6080, 6144, 4144, 4145] from by decide +kernel)).trans q133
            have q144 : s142 256 43 = z5 := (t_s142 256 43 (show 4140 ∉ [6080, 6144, 4144, 4145] from by decide +kernel)).trans q134
            have q145 : s142 256 38 = z6 := (t_s142 256 38 (show 4135 ∉ [6080, 6144, 4144, 4145] from by decide +kernel)).trans q135
            have q146 : s142 256 50 = z7 := (t_s142 256 50 (show 4147 ∉ [6080, 6144, 4144, 4145] from by decide +kernel)).trans q136
            have q147 : s142 256 36 = z124 := (t_s142 256 36 (show 4133 ∉ [6080, 6144, 4144, 4145] from by decide +kernel)).trans q137
            have q148 : s142 256 39 = z125 := (t_s142 256 39 (show 4136 ∉ [6080, 6144, 4144, 4145] from by decide +kernel)).trans q138
            have q149 : s142 256 35 = z126 := (t_s142 256 35 (show 4132 ∉ [6080, 6144, 4144, 4145] from by decide +kernel)).trans q139
            show xe none 197 251 [(3, vi z125), (2, vi z116), (1, vi 6), (0, .ref 256)] [] s142 0 0 _
            have A1_w : AW s142 1 (s0 256 50) (s0 256 47 + s0 256 48 + 1) := AW.tr A1_l AW1_s142
            have s_A1_w := A1_w.2.2.2
            obtain ⟨z150, e_z150⟩ : ∃ z, z = s142 256 47 := ⟨_, rfl⟩
            have g_z150 : (0 : Int) ≤ s142 256 47 ∧ s142 256 47 ≤ 110 := hG_s142 256 47
            obtain ⟨z151, e_z151⟩ : ∃ z, z = s142 256 48 := ⟨_, rfl⟩
            have g_z151 : (0 : Int) ≤ s142 256 48 ∧ s142 256 48 ≤ 120 := hG_s142 256 48
            refine x_A k197_251 (fun _ => rfl) ?_
            refine x_A k197_252 (fun _ => rfl) ?_
            refine x_putZ k197_253 (f := 51) rfl (q := 256) (n := 62) (kd := 15) ⟨by decide, rfl⟩ rfl rfl rfl ⟨by omega, by omega⟩ ?_
            refine x_nh (fun s152 e_s152 => ?_)
            have hG_s152 : GI s152 := by rw [e_s152]; exact hG_s142.up (show 0 ≤ 0 ∧ 0 ≤ 1 from ⟨by decide, by decide⟩)
            have f_s152 : FL [4133, 4136, 4132, 6080, 6144, 4144, 4145, 4148] s0 s152 := by rw [e_s152]; exact f_s142.up (show 4148 ∈ [4133, 4136, 4132, 6080, 6144, 4144, 4145, 4148] from by decide +kernel)
            have q153 : s152 256 34 = z4 := by rw [e_s152, x_up_i (by decide)]; exact q143
            have q154 : s152 256 43 = z5 := by rw [e_s152, x_up_i (by decide)]; exact q144
            have q155 : s152 256 38 = z6 := by rw [e_s152, x_up_i (by decide)]; exact q145
            have q156 : s152 256 50 = z7 := by rw [e_s152, x_up_i (by decide)]; exact q146
            have q157 : s152 256 36 = z124 := by rw [e_s152, x_up_i (by decide)]; exact q147
            have q158 : s152 256 39 = z125 := by rw [e_s152, x_up_i (by decide)]; exact q148
            have q159 : s152 256 35 = z126 := by rw [e_s152, x_up_i (by decide)]; exact q149
            have q160 : s152 256 47 = z150 := by rw [e_s152, x_up_i (by decide)]; exact e_z150.symm
            have q161 : s152 256 48 = z151 := by rw [e_s152, x_up_i (by decide)]; exact e_z151.symm
            have q162 : s152 256 51 = 0 := by rw [e_s152]; exact x_up_same
            have J_s152 : J s152 := by rw [e_s152]; exact J.up J_s142 (show 4148 ∉ LJ from by decide)
            have A1_s152 : AW s152 1 (s0 256 50) (s0 256 47 + s0 256 48 + 1) := by rw [e_s152]; exact AW.up A1_w (show 4148 ∉ [6080, 4140, 4144, 4145, 6208] from by decide +kernel)
            refine x_A k197_256 (fun _ => rfl) ?_
            exact x_iret k197_257 rfl ⟨hG_s152, f_s152, z116, rfl, (by first | exact x_rbe e_z116 g_z116 rfl rfl | exact x_rb g_z116 rfl rfl | exact ⟨by omega, by omega⟩), ⟨(by have lh : lhi (lkd (s0 283) (s0 256 34) (s0 256 36)) = 999 := (by rw [lkK]; rfl); have l0 := lff_0 (T := s0 283) (n := s0 256 34) (p := s0 256 36) (by omega) (by omega) (by rw [lh]; omega); exact ⟨by omega, fun w => by omega, fun w => ⟨by rw [show s152 256 36 = te (s0 283) (s0 256 34) (nx (s0 283) (s0 256 34) (s0 256 36)) by omega, l0.2]; rfl, by omega⟩⟩), ⟨fun hz => by omega, fun hz => A1_s152⟩⟩, J_s152⟩
      · skip
        refine x_A k197_71 (fun _ => rfl) ?_
        refine x_goto k197_72 (t := 128) rfl ?_
        refine x_istore_n k197_128 (ls' := [(1, vi 5), (0, .ref 256)]) (by decide) rfl ?_
        have lkK : lkd (s0 283) (s0 256 34) (s0 256 36) = 3 := by
          have lc := lkw_cs (wv (s0 283) (s0 256 34) (s0 256 36))
          have lk : lkw (wv (s0 283) (s0 256 34) (s0 256 36)) = lkd (s0 283) (s0 256 34) (s0 256 36) := rfl
          clear pc pb
          omega
        have wkA := (wv_kd (T := s0 283) (n := s0 256 34) (p := s0 256 36) (by clear pc pb; omega)).2
        have tlA := (te_le (T := s0 283) (n := s0 256 34) (p := s0 256 36)).1
        have tlB := (te_le (T := s0 283) (n := s0 256 34) (p := s0 256 36)).2.1 (by omega)
        obtain ⟨pc1, pc2⟩ := pc
        specialize pc1 (by omega)
        refine x_A k197_129 (fun _ => rfl) ?_
        refine x_if_ge k197_130 (t := 143) rfl ⟨by decide, by decide⟩ (fun c163 => ?_) (fun c163 => by exfalso; omega)
        refine x_A k197_143 (fun _ => rfl) ?_
        refine x_A k197_144 (fun _ => rfl) ?_
        refine x_getI k197_145 (f := 38) rfl (q := 256) (n := 62) (kd := 15) ⟨by decide, rfl⟩ (by decide) rfl ?_
        refine x_rw (e_z6.symm) ?_
        refine x_putI k197_148 (f := 36) rfl (q := 256) (n := 62) (kd := 15) ⟨by decide, rfl⟩ rfl rfl rfl ?_
        refine x_nh (fun s164 e_s164 => ?_)
        have hG_s164 : GI s164 := by rw [e_s164]; exact hG0.up (show 0 ≤ z6 ∧ z6 ≤ 160 from (by first | exact x_rbe e_z6 g_z6 rfl rfl | exact x_rb g_z6 rfl rfl | exact ⟨by omega, by omega⟩))
        have f_s164 : FL [4133, 4136, 4132, 6080, 6144, 4144, 4145, 4148] s0 s164 := by rw [e_s164]; exact f0.up (show 4133 ∈ [4133, 4136, 4132, 6080, 6144, 4144, 4145, 4148] from by decide +kernel)
        have q165 : s164 256 47 = z1 := by rw [e_s164, x_up_i (by decide)]; exact e_z1.symm
        have q166 : s164 256 48 = z2 := by rw [e_s164, x_up_i (by decide)]; exact e_z2.symm
        have q167 : s164 256 34 = z4 := by rw [e_s164, x_up_i (by decide)]; exact e_z4.symm
        have q168 : s164 256 43 = z5 := by rw [e_s164, x_up_i (by decide)]; exact e_z5.symm
        have q169 : s164 256 38 = z6 := by rw [e_s164, x_up_i (by decide)]; exact e_z6.symm
        have q170 : s164 256 50 = z7 := by rw [e_s164, x_up_i (by decide)]; exact e_z7.symm
        have q171 : s164 256 35 = z8 := by rw [e_s164, x_up_i (by decide)]; exact e_z8.symm
        have q172 : s164 256 36 = z6 := by rw [e_s164]; exact x_up_same
        have J_s164 : J s164 := by rw [e_s164]; exact J.up i0_J (show 4133 ∉ LJ from by decide)
        have A0_s164 : AW s164 0 (s0 256 50) (s0 256 47 + s0 256 48) := by rw [e_s164]; exact AW.up i0_A0 (show 4133 ∉ [6080, 4140, 4144, 4145, 6208] from by decide +kernel)
        refine x_A k197_151 (fun _ => rfl) ?_
        refine x_A k197_152 (fun _ => rfl) ?_
        refine x_A k197_153 (fun _ => rfl) ?_
        refine x_A k197_154 (fun _ => rfl) ?_
        refine x_ic_ne k197_155 (t := 163) rfl ⟨by decide, by decide⟩ ⟨by decide, by decide⟩ (fun c173 => ?_) (fun c173 => by exfalso; omega)
        refine x_A k197_163 (fun _ => rfl) ?_
        refine x_A k197_164 (fun _ => rfl) ?_
        refine x_ic_ne k197_165 (t := 172) rfl ⟨by decide, by decide⟩ ⟨by decide, by decide⟩ (fun c174 => ?_) (fun c174 => by exfalso; omega)
        refine x_A k197_172 (fun _ => rfl) ?_
        refine x_A k197_173 (fun _ => rfl) ?_
        refine x_ic_ne k197_174 (t := 182) rfl ⟨by decide, by decide⟩ ⟨by decide, by decide⟩ (fun c175 => by exfalso; omega) (fun c175 => ?_)
        refine x_bipush k197_177 (by decide +kernel) ?_
        refine x_goto k197_179 (t := 196) rfl ?_
        refine x_A k197_196 (fun _ => rfl) ?_
        refine x_A k197_197 (fun _ => rfl) ?_
        refine x_callV k197_198 (y := 180) (n := 4) (w0 := 0) (w1 := 4) (as := [vi 0, vi 7, vi 3, vi 2]) (rest := []) (by decide +kernel) (q := 256) (nq := 62) (kq := 15) ⟨by decide, rfl⟩ rfl rfl rfl rfl (xe_mono (E_X11_readNumber_256 s164 hG_s164 0 ⟨by decide, by decide⟩ 7 ⟨by decide, by decide⟩ 3 ⟨by decide, by decide⟩ 2 ⟨by decide, by decide⟩ (by omega)) ?_)
        rintro s177 v ⟨hG_s177, t_s177, z176, rfl, g_z176, xp_z176⟩
        have f_s177 : FL [4133, 4136, 4132, 6080, 6144, 4144, 4145, 4148] s0 s177 := f_s164.tr t_s177 (by decide +kernel)
        have q178 : s177 256 47 = z1 := (t_s177 256 47 (show 4144 ∉ [4133, 4136, 4132] from by decide +kernel)).trans q165
        have q179 : s177 256 48 = z2 := (t_s177 256 48 (show 4145 ∉ [4133, 4136, 4132] from by decide +kernel)).trans q166
        have q180 : s177 256 34 = z4 := (t_s177 256 34 (show 4131 ∉ [4133, 4136, 4132] from by decide +kernel)).trans q167
        have q181 : s177 256 43 = z5 := (t_s177 256 43 (show 4140 ∉ [4133, 4136, 4132] from by decide +kernel)).trans q168
        have q182 : s177 256 38 = z6 := (t_s177 256 38 (show 4135 ∉ [4133, 4136, 4132] from by decide +kernel)).trans q169
        have q183 : s177 256 50 = z7 := (t_s177 256 50 (show 4147 ∉ [4133, 4136, 4132] from by decide +kernel)).trans q170
        have J_s177 : J s177 := J.fl J_s164 t_s177 (by decide +kernel)
        have A0_s177 : AW s177 0 (s0 256 50) (s0 256 47 + s0 256 48) := AW.fl A0_s164 t_s177 (by decide +kernel)
        obtain ⟨z184, e_z184⟩ : ∃ z, z = s177 256 36 := ⟨_, rfl⟩
        have g_z184 : (0 : Int) ≤ s177 256 36 ∧ s177 256 36 ≤ 160 := hG_s177 256 36
        obtain ⟨z185, e_z185⟩ : ∃ z, z = s177 256 39 := ⟨_, rfl⟩
        have g_z185 : (0 : Int) ≤ s177 256 39 ∧ s177 256 39 ≤ 1100000 := hG_s177 256 39
        obtain ⟨z186, e_z186⟩ : ∃ z, z = s177 256 35 := ⟨_, rfl⟩
        have g_z186 : (-2147483648) ≤ s177 256 35 ∧ s177 256 35 ≤ 2147483647 := hG_s177 256 35
        show xe none 197 201 [(1, vi 5), (0, .ref 256)] [vi z176] s177 0 0 _
        have n1 := xp_z176
        clear xp_z176
        rw [show s164 283 = s0 283 from funext fun i => f_s164 283 i (show 5824 ∉ [4133, 4136, 4132, 6080, 6144, 4144, 4145, 4148] from by decide +kernel), show s164 256 34 = s0 256 34 from f_s164 256 34 (show 4131 ∉ [4133, 4136, 4132, 6080, 6144, 4144, 4145, 4148] from by decide +kernel), show s164 256 36 = te (s0 283) (s0 256 34) (s0 256 36) by omega] at n1
        rw [show sk (s0 283) (s0 256 34) (te (s0 283) (s0 256 34) (s0 256 36)) = nx (s0 283) (s0 256 34) (s0 256 36) from rfl] at n1
        refine x_istore_n k197_201 (ls' := [(2, vi z176), (1, vi 5), (0, .ref 256)]) (by decide) rfl ?_
        refine x_A k197_202 (fun _ => rfl) ?_
        refine x_getI k197_203 (f := 39) rfl (q := 256) (n := 62) (kd := 15) ⟨by decide, rfl⟩ (by decide) rfl ?_
        refine x_rw (e_z185.symm) ?_
        refine x_istore_n k197_206 (ls' := [(3, vi z185), (2, vi z176), (1, vi 5), (0, .ref 256)]) (by decide) rfl ?_
        refine x_A k197_207 (fun _ => rfl) ?_
        refine x_A k197_208 (fun _ => rfl) ?_
        refine x_ic_ne k197_209 (t := 236) rfl ⟨by decide, by decide⟩ ⟨by decide, by decide⟩ (fun c187 => ?_) (fun c187 => by exfalso; omega)
        refine x_A k197_236 (fun _ => rfl) ?_
        refine x_if_ne k197_237 (t := 256) rfl (by first | exact x_rbe e_z176 g_z176 rfl rfl | exact x_rb g_z176 rfl rfl | exact ⟨by omega, by omega⟩) (fun c188 => ?_) (fun c188 => ?_)
        · skip
          obtain ⟨n1z, -, n1c, -, -, n1f, n1g⟩ := n1
          specialize n1c (by omega)
          specialize n1g (by omega)
          refine x_A k197_256 (fun _ => rfl) ?_
          obtain ⟨z189, e_z189⟩ : ∃ z, z = s177 256 51 := ⟨_, rfl⟩
          have g_z189 : (0 : Int) ≤ s177 256 51 ∧ s177 256 51 ≤ 1 := hG_s177 256 51
          exact x_iret k197_257 rfl ⟨hG_s177, f_s177, z176, rfl, (by first | exact x_rbe e_z176 g_z176 rfl rfl | exact x_rb g_z176 rfl rfl | exact ⟨by omega, by omega⟩), ⟨(by have lh : lhi (lkd (s0 283) (s0 256 34) (s0 256 36)) = 7 := (by rw [lkK]; rfl); have l1 := lff_1 (T := s0 283) (n := s0 256 34) (p := s0 256 36) (by omega) (by rw [lh]; omega); rw [lh] at l1; exact ⟨by omega, fun w => by omega, fun w => by omega⟩), ⟨fun hz => by exfalso; omega, fun hz => by exfalso; omega⟩⟩, J_s177⟩
        · skip
          obtain ⟨n1z, n1a, -, n1d, n1e, n1f, n1g⟩ := n1
          specialize n1a (by omega)
          specialize n1d (by omega)
          specialize n1e (by omega)
          specialize n1g (by omega)
          refine x_A k197_240 (fun _ => rfl) ?_
          refine x_A k197_241 (fun _ => rfl) ?_
          refine x_A k197_242 (fun _ => rfl) ?_
          refine x_callV k197_243 (y := 194) (n := 2) (w0 := 0) (w1 := 2) (as := [vi 5, vi z185]) (rest := []) (by decide +kernel) (q := 256) (nq := 62) (kq := 15) ⟨by decide, rfl⟩ rfl rfl rfl rfl (xe_mono (C_X11_put_256 s177 hG_s177 5 ⟨by decide, by decide⟩ z185 (by first | exact x_rbe e_z185 g_z185 rfl rfl | exact x_rb g_z185 rfl rfl | exact ⟨by omega, by omega⟩) ⟨by omega, by omega⟩ ⟨by omega, by omega⟩ J_s177) ?_)
          rintro s191 v ⟨hG_s191, t_s191, rfl, xp_z190, J_s191⟩
          have f_s191 : FL [4133, 4136, 4132, 6080, 6144, 4144, 4145, 4148] s0 s191 := f_s177.tr t_s191 (by decide +kernel)
          have q192 : s191 256 48 = z2 := (t_s191 256 48 (show 4145 ∉ [6080, 6144, 4144] from by decide +kernel)).trans q179
          have q193 : s191 256 34 = z4 := (t_s191 256 34 (show 4131 ∉ [6080, 6144, 4144] from by decide +kernel)).trans q180
          have q194 : s191 256 43 = z5 := (t_s191 256 43 (show 4140 ∉ [6080, 6144, 4144] from by decide +kernel)).trans q181
          have q195 : s191 256 38 = z6 := (t_s191 256 38 (show 4135 ∉ [6080, 6144, 4144] from by decide +kernel)).trans q182
          have q196 : s191 256 50 = z7 := (t_s191 256 50 (show 4147 ∉ [6080, 6144, 4144] from by decide +kernel)).trans q183
          have q197 : s191 256 36 = z184 := (t_s191 256 36 (show 4133 ∉ [6080, 6144, 4144] from by decide +kernel)).trans e_z184.symm
          have q198 : s191 256 39 = z185 := (t_s191 256 39 (show 4136 ∉ [6080, 6144, 4144] from by decide +kernel)).trans e_z185.symm
          have q199 : s191 256 35 = z186 := (t_s191 256 35 (show 4132 ∉ [6080, 6144, 4144] from by decide +kernel)).trans e_z186.symm
          show xe none 197 246 [(3, vi z185), (2, vi z176), (1, vi 5), (0, .ref 256)] [] s191 0 0 _
          obtain ⟨z200, e_z200⟩ : ∃ z, z = s191 256 47 := ⟨_, rfl⟩
          have g_z200 : (0 : Int) ≤ s191 256 47 ∧ s191 256 47 ≤ 110 := hG_s191 256 47
          have A1_l : AW s191 1 (s0 256 50) (s0 256 47 + s0 256 48 + 1) := AW.leaf A0_s177 (by omega) (by omega) (by omega) (by omega) (by omega) (by omega) (funext fun i => t_s191 289 i (show 6208 ∉ _ from by decide)) xp_z190.2
          have s_l := A1_l.2.2.2
          have AW1_l := AW.rf A1_l
          refine x_A k197_246 (fun _ => rfl) ?_
          refine x_A k197_247 (fun _ => rfl) ?_
          refine x_callV k197_248 (y := 195) (n := 1) (w0 := 0) (w1 := 1) (as := [vi 2]) (rest := []) (by decide +kernel) (q := 256) (nq := 62) (kq := 15) ⟨by decide, rfl⟩ rfl rfl rfl rfl (xe_mono (C_X11_work_256 s191 hG_s191 2 ⟨by decide, by decide⟩ ⟨by omega, by omega⟩ ⟨by omega, by omega⟩ ⟨by omega, by omega⟩ (by omega) (by omega) J_s191 AW1_l) ?_)
          rintro s202 v ⟨hG_s202, t_s202, rfl, xp_z201, J_s202, AW1_s202⟩
          have f_s202 : FL [4133, 4136, 4132, 6080, 6144, 4144, 4145, 4148] s0 s202 := f_s191.tr t_s202 (by decide +kernel)
          have q203 : s202 256 34 = z4 := (t_s202 256 34 (show 4131 ∉ [6080, 6144, 4144, 4145] from by decide +kernel)).trans q193
          have q204 : s202 256 43 = z5 := (t_s202 256 43 (show 4140 ∉ [6080, 6144, 4144, 4145] from by decide +kernel)).trans q194
          have q205 : s202 256 38 = z6 := (t_s202 256 38 (show 4135 ∉ [6080, 6144, 4144, 4145] from by decide +kernel)).trans q195
          have q206 : s202 256 50 = z7 := (t_s202 256 50 (show 4147 ∉ [6080, 6144, 4144, 4145] from by decide +kernel)).trans q196
          have q207 : s202 256 36 = z184 := (t_s202 256 36 (show 4133 ∉ [6080, 6144, 4144, 4145] from by decide +kernel)).trans q197
          have q208 : s202 256 39 = z185 := (t_s202 256 39 (show 4136 ∉ [6080, 6144, 4144, 4145] from by decide +kernel)).trans q198
          have q209 : s202 256 35 = z186 := (t_s202 256 35 (show 4132 ∉ [6080, 6144, 4144, 4145] from by decide +kernel)).trans q199
          show xe none 197 251 [(3, vi z185), (2, vi z176), (1, vi 5), (0, .ref 256)] [] s202 0 0 _
          have A1_w : AW s202 1 (s0 256 50) (s0 256 47 + s0 256 48 + 1) := AW.tr A1_l AW1_s202
          have s_A1_w := A1_w.2.2.2
          obtain ⟨z210, e_z210⟩ : ∃ z, z = s202 256 47 := ⟨_, rfl⟩
          have g_z210 : (0 : Int) ≤ s202 256 47 ∧ s202 256 47 ≤ 110 := hG_s202 256 47
          obtain ⟨z211, e_z211⟩ : ∃ z, z = s202 256 48 := ⟨_, rfl⟩
          have g_z211 : (0 : Int) ≤ s202 256 48 ∧ s202 256 48 ≤ 120 := hG_s202 256 48
          refine x_A k197_251 (fun _ => rfl) ?_
          refine x_A k197_252 (fun _ => rfl) ?_
          refine x_putZ k197_253 (f := 51) rfl (q := 256) (n := 62) (kd := 15) ⟨by decide, rfl⟩ rfl rfl rfl ⟨by omega, by omega⟩ ?_
          refine x_nh (fun s212 e_s212 => ?_)
          have hG_s212 : GI s212 := by rw [e_s212]; exact hG_s202.up (show 0 ≤ 0 ∧ 0 ≤ 1 from ⟨by decide, by decide⟩)
          have f_s212 : FL [4133, 4136, 4132, 6080, 6144, 4144, 4145, 4148] s0 s212 := by rw [e_s212]; exact f_s202.up (show 4148 ∈ [4133, 4136, 4132, 6080, 6144, 4144, 4145, 4148] from by decide +kernel)
          have q213 : s212 256 34 = z4 := by rw [e_s212, x_up_i (by decide)]; exact q203
          have q214 : s212 256 43 = z5 := by rw [e_s212, x_up_i (by decide)]; exact q204
          have q215 : s212 256 38 = z6 := by rw [e_s212, x_up_i (by decide)]; exact q205
          have q216 : s212 256 50 = z7 := by rw [e_s212, x_up_i (by decide)]; exact q206
          have q217 : s212 256 36 = z184 := by rw [e_s212, x_up_i (by decide)]; exact q207
          have q218 : s212 256 39 = z185 := by rw [e_s212, x_up_i (by decide)]; exact q208
          have q219 : s212 256 35 = z186 := by rw [e_s212, x_up_i (by decide)]; exact q209
          have q220 : s212 256 47 = z210 := by rw [e_s212, x_up_i (by decide)]; exact e_z210.symm
          have q221 : s212 256 48 = z211 := by rw [e_s212, x_up_i (by decide)]; exact e_z211.symm
          have q222 : s212 256 51 = 0 := by rw [e_s212]; exact x_up_same
          have J_s212 : J s212 := by rw [e_s212]; exact J.up J_s202 (show 4148 ∉ LJ from by decide)
          have A1_s212 : AW s212 1 (s0 256 50) (s0 256 47 + s0 256 48 + 1) := by rw [e_s212]; exact AW.up A1_w (show 4148 ∉ [6080, 4140, 4144, 4145, 6208] from by decide +kernel)
          refine x_A k197_256 (fun _ => rfl) ?_
          exact x_iret k197_257 rfl ⟨hG_s212, f_s212, z176, rfl, (by first | exact x_rbe e_z176 g_z176 rfl rfl | exact x_rb g_z176 rfl rfl | exact ⟨by omega, by omega⟩), ⟨(by have lh : lhi (lkd (s0 283) (s0 256 34) (s0 256 36)) = 7 := (by rw [lkK]; rfl); have l0 := lff_0 (T := s0 283) (n := s0 256 34) (p := s0 256 36) (by omega) (by omega) (by rw [lh]; omega); exact ⟨by omega, fun w => by omega, fun w => ⟨by rw [show s212 256 36 = te (s0 283) (s0 256 34) (nx (s0 283) (s0 256 34) (s0 256 36)) by omega, l0.2]; rfl, by omega⟩⟩), ⟨fun hz => by omega, fun hz => A1_s212⟩⟩, J_s212⟩
    · skip
      refine x_A k197_46 (fun _ => rfl) ?_
      refine x_goto k197_47 (t := 128) rfl ?_
      refine x_istore_n k197_128 (ls' := [(1, vi 4), (0, .ref 256)]) (by decide) rfl ?_
      have lkK : lkd (s0 283) (s0 256 34) (s0 256 36) = 2 := by
        have lc := lkw_cs (wv (s0 283) (s0 256 34) (s0 256 36))
        have lk : lkw (wv (s0 283) (s0 256 34) (s0 256 36)) = lkd (s0 283) (s0 256 34) (s0 256 36) := rfl
        clear pc pb
        omega
      have wkA := (wv_kd (T := s0 283) (n := s0 256 34) (p := s0 256 36) (by clear pc pb; omega)).2
      have tlA := (te_le (T := s0 283) (n := s0 256 34) (p := s0 256 36)).1
      have tlB := (te_le (T := s0 283) (n := s0 256 34) (p := s0 256 36)).2.1 (by omega)
      obtain ⟨pc1, pc2⟩ := pc
      specialize pc1 (by omega)
      refine x_A k197_129 (fun _ => rfl) ?_
      refine x_if_ge k197_130 (t := 143) rfl ⟨by decide, by decide⟩ (fun c223 => ?_) (fun c223 => by exfalso; omega)
      refine x_A k197_143 (fun _ => rfl) ?_
      refine x_A k197_144 (fun _ => rfl) ?_
      refine x_getI k197_145 (f := 38) rfl (q := 256) (n := 62) (kd := 15) ⟨by decide, rfl⟩ (by decide) rfl ?_
      refine x_rw (e_z6.symm) ?_
      refine x_putI k197_148 (f := 36) rfl (q := 256) (n := 62) (kd := 15) ⟨by decide, rfl⟩ rfl rfl rfl ?_
      refine x_nh (fun s224 e_s224 => ?_)
      have hG_s224 : GI s224 := by rw [e_s224]; exact hG0.up (show 0 ≤ z6 ∧ z6 ≤ 160 from (by first | exact x_rbe e_z6 g_z6 rfl rfl | exact x_rb g_z6 rfl rfl | exact ⟨by omega, by omega⟩))
      have f_s224 : FL [4133, 4136, 4132, 6080, 6144, 4144, 4145, 4148] s0 s224 := by rw [e_s224]; exact f0.up (show 4133 ∈ [4133, 4136, 4132, 6080, 6144, 4144, 4145, 4148] from by decide +kernel)
      have q225 : s224 256 47 = z1 := by rw [e_s224, x_up_i (by decide)]; exact e_z1.symm
      have q226 : s224 256 48 = z2 := by rw [e_s224, x_up_i (by decide)]; exact e_z2.symm
      have q227 : s224 256 34 = z4 := by rw [e_s224, x_up_i (by decide)]; exact e_z4.symm
      have q228 : s224 256 43 = z5 := by rw [e_s224, x_up_i (by decide)]; exact e_z5.symm
      have q229 : s224 256 38 = z6 := by rw [e_s224, x_up_i (by decide)]; exact e_z6.symm
      have q230 : s224 256 50 = z7 := by rw [e_s224, x_up_i (by decide)]; exact e_z7.symm
      have q231 : s224 256 35 = z8 := by rw [e_s224, x_up_i (by decide)]; exact e_z8.symm
      have q232 : s224 256 36 = z6 := by rw [e_s224]; exact x_up_same
      have J_s224 : J s224 := by rw [e_s224]; exact J.up i0_J (show 4133 ∉ LJ from by decide)
      have A0_s224 : AW s224 0 (s0 256 50) (s0 256 47 + s0 256 48) := by rw [e_s224]; exact AW.up i0_A0 (show 4133 ∉ [6080, 4140, 4144, 4145, 6208] from by decide +kernel)
      refine x_A k197_151 (fun _ => rfl) ?_
      refine x_A k197_152 (fun _ => rfl) ?_
      refine x_A k197_153 (fun _ => rfl) ?_
      refine x_A k197_154 (fun _ => rfl) ?_
      refine x_ic_ne k197_155 (t := 163) rfl ⟨by decide, by decide⟩ ⟨by decide, by decide⟩ (fun c233 => ?_) (fun c233 => by exfalso; omega)
      refine x_A k197_163 (fun _ => rfl) ?_
      refine x_A k197_164 (fun _ => rfl) ?_
      refine x_ic_ne k197_165 (t := 172) rfl ⟨by decide, by decide⟩ ⟨by decide, by decide⟩ (fun c234 => by exfalso; omega) (fun c234 => ?_)
      refine x_A k197_168 (fun _ => rfl) ?_
      refine x_goto k197_169 (t := 196) rfl ?_
      refine x_A k197_196 (fun _ => rfl) ?_
      refine x_A k197_197 (fun _ => rfl) ?_
      refine x_callV k197_198 (y := 180) (n := 4) (w0 := 0) (w1 := 4) (as := [vi 0, vi 3, vi 3, vi 2]) (rest := []) (by decide +kernel) (q := 256) (nq := 62) (kq := 15) ⟨by decide, rfl⟩ rfl rfl rfl rfl (xe_mono (E_X11_readNumber_256 s224 hG_s224 0 ⟨by decide, by decide⟩ 3 ⟨by decide, by decide⟩ 3 ⟨by decide, by decide⟩ 2 ⟨by decide, by decide⟩ (by omega)) ?_)
      rintro s236 v ⟨hG_s236, t_s236, z235, rfl, g_z235, xp_z235⟩
      have f_s236 : FL [4133, 4136, 4132, 6080, 6144, 4144, 4145, 4148] s0 s236 := f_s224.tr t_s236 (by decide +kernel)
      have q237 : s236 256 47 = z1 := (t_s236 256 47 (show 4144 ∉ [4133, 4136, 4132] from by decide +kernel)).trans q225
      have q238 : s236 256 48 = z2 := (t_s236 256 48 (show 4145 ∉ [4133, 4136, 4132] from by decide +kernel)).trans q226
      have q239 : s236 256 34 = z4 := (t_s236 256 34 (show 4131 ∉ [4133, 4136, 4132] from by decide +kernel)).trans q227
      have q240 : s236 256 43 = z5 := (t_s236 256 43 (show 4140 ∉ [4133, 4136, 4132] from by decide +kernel)).trans q228
      have q241 : s236 256 38 = z6 := (t_s236 256 38 (show 4135 ∉ [4133, 4136, 4132] from by decide +kernel)).trans q229
      have q242 : s236 256 50 = z7 := (t_s236 256 50 (show 4147 ∉ [4133, 4136, 4132] from by decide +kernel)).trans q230
      have J_s236 : J s236 := J.fl J_s224 t_s236 (by decide +kernel)
      have A0_s236 : AW s236 0 (s0 256 50) (s0 256 47 + s0 256 48) := AW.fl A0_s224 t_s236 (by decide +kernel)
      obtain ⟨z243, e_z243⟩ : ∃ z, z = s236 256 36 := ⟨_, rfl⟩
      have g_z243 : (0 : Int) ≤ s236 256 36 ∧ s236 256 36 ≤ 160 := hG_s236 256 36
      obtain ⟨z244, e_z244⟩ : ∃ z, z = s236 256 39 := ⟨_, rfl⟩
      have g_z244 : (0 : Int) ≤ s236 256 39 ∧ s236 256 39 ≤ 1100000 := hG_s236 256 39
      obtain ⟨z245, e_z245⟩ : ∃ z, z = s236 256 35 := ⟨_, rfl⟩
      have g_z245 : (-2147483648) ≤ s236 256 35 ∧ s236 256 35 ≤ 2147483647 := hG_s236 256 35
      show xe none 197 201 [(1, vi 4), (0, .ref 256)] [vi z235] s236 0 0 _
      have n1 := xp_z235
      clear xp_z235
      rw [show s224 283 = s0 283 from funext fun i => f_s224 283 i (show 5824 ∉ [4133, 4136, 4132, 6080, 6144, 4144, 4145, 4148] from by decide +kernel), show s224 256 34 = s0 256 34 from f_s224 256 34 (show 4131 ∉ [4133, 4136, 4132, 6080, 6144, 4144, 4145, 4148] from by decide +kernel), show s224 256 36 = te (s0 283) (s0 256 34) (s0 256 36) by omega] at n1
      rw [show sk (s0 283) (s0 256 34) (te (s0 283) (s0 256 34) (s0 256 36)) = nx (s0 283) (s0 256 34) (s0 256 36) from rfl] at n1
      refine x_istore_n k197_201 (ls' := [(2, vi z235), (1, vi 4), (0, .ref 256)]) (by decide) rfl ?_
      refine x_A k197_202 (fun _ => rfl) ?_
      refine x_getI k197_203 (f := 39) rfl (q := 256) (n := 62) (kd := 15) ⟨by decide, rfl⟩ (by decide) rfl ?_
      refine x_rw (e_z244.symm) ?_
      refine x_istore_n k197_206 (ls' := [(3, vi z244), (2, vi z235), (1, vi 4), (0, .ref 256)]) (by decide) rfl ?_
      refine x_A k197_207 (fun _ => rfl) ?_
      refine x_A k197_208 (fun _ => rfl) ?_
      refine x_ic_ne k197_209 (t := 236) rfl ⟨by decide, by decide⟩ ⟨by decide, by decide⟩ (fun c246 => by exfalso; omega) (fun c246 => ?_)
      refine x_A k197_212 (fun _ => rfl) ?_
      refine x_if_ne k197_213 (t := 236) rfl (by first | exact x_rbe e_z235 g_z235 rfl rfl | exact x_rb g_z235 rfl rfl | exact ⟨by omega, by omega⟩) (fun c247 => ?_) (fun c247 => ?_)
      · skip
        refine x_A k197_236 (fun _ => rfl) ?_
        refine x_if_ne k197_237 (t := 256) rfl (by first | exact x_rbe e_z235 g_z235 rfl rfl | exact x_rb g_z235 rfl rfl | exact ⟨by omega, by omega⟩) (fun c248 => ?_) (fun c248 => by exfalso; omega)
        obtain ⟨n1z, -, n1c, -, -, n1f, n1g⟩ := n1
        specialize n1c (by omega)
        specialize n1g (by omega)
        refine x_A k197_256 (fun _ => rfl) ?_
        obtain ⟨z249, e_z249⟩ : ∃ z, z = s236 256 51 := ⟨_, rfl⟩
        have g_z249 : (0 : Int) ≤ s236 256 51 ∧ s236 256 51 ≤ 1 := hG_s236 256 51
        exact x_iret k197_257 rfl ⟨hG_s236, f_s236, z235, rfl, (by first | exact x_rbe e_z235 g_z235 rfl rfl | exact x_rb g_z235 rfl rfl | exact ⟨by omega, by omega⟩), ⟨(by have lh : lhi (lkd (s0 283) (s0 256 34) (s0 256 36)) = 3 := (by rw [lkK]; rfl); have l1 := lff_1 (T := s0 283) (n := s0 256 34) (p := s0 256 36) (by omega) (by rw [lh]; omega); rw [lh] at l1; exact ⟨by omega, fun w => by omega, fun w => by omega⟩), ⟨fun hz => by exfalso; omega, fun hz => by exfalso; omega⟩⟩, J_s236⟩
      · skip
        obtain ⟨n1z, n1a, -, n1d, n1e, n1f, n1g⟩ := n1
        specialize n1a (by omega)
        specialize n1d (by omega)
        specialize n1e (by omega)
        specialize n1g (by omega)
        refine x_A k197_216 (fun _ => rfl) ?_
        refine x_A k197_217 (fun _ => rfl) ?_
        refine x_bipush k197_218 (by decide +kernel) ?_
        refine x_A k197_220 (fun _ => rfl) ?_
        refine x_A k197_221 (fun _ => rfl) ?_
        refine x_callV k197_222 (y := 180) (n := 4) (w0 := 0) (w1 := 4) (as := [vi 0, vi 99, vi 3, vi 2]) (rest := []) (by decide +kernel) (q := 256) (nq := 62) (kq := 15) ⟨by decide, rfl⟩ rfl rfl rfl rfl (xe_mono (E_X11_readNumber_256 s236 hG_s236 0 ⟨by decide, by decide⟩ 99 ⟨by decide, by decide⟩ 3 ⟨by decide, by decide⟩ 2 ⟨by decide, by decide⟩ (by omega)) ?_)
        rintro s251 v ⟨hG_s251, t_s251, z250, rfl, g_z250, xp_z250⟩
        have f_s251 : FL [4133, 4136, 4132, 6080, 6144, 4144, 4145, 4148] s0 s251 := f_s236.tr t_s251 (by decide +kernel)
        have q252 : s251 256 47 = z1 := (t_s251 256 47 (show 4144 ∉ [4133, 4136, 4132] from by decide +kernel)).trans q237
        have q253 : s251 256 48 = z2 := (t_s251 256 48 (show 4145 ∉ [4133, 4136, 4132] from by decide +kernel)).trans q238
        have q254 : s251 256 34 = z4 := (t_s251 256 34 (show 4131 ∉ [4133, 4136, 4132] from by decide +kernel)).trans q239
        have q255 : s251 256 43 = z5 := (t_s251 256 43 (show 4140 ∉ [4133, 4136, 4132] from by decide +kernel)).trans q240
        have q256 : s251 256 38 = z6 := (t_s251 256 38 (show 4135 ∉ [4133, 4136, 4132] from by decide +kernel)).trans q241
        have q257 : s251 256 50 = z7 := (t_s251 256 50 (show 4147 ∉ [4133, 4136, 4132] from by decide +kernel)).trans q242
        have J_s251 : J s251 := J.fl J_s236 t_s251 (by decide +kernel)
        have A0_s251 : AW s251 0 (s0 256 50) (s0 256 47 + s0 256 48) := AW.fl A0_s236 t_s251 (by decide +kernel)
        obtain ⟨z258, e_z258⟩ : ∃ z, z = s251 256 36 := ⟨_, rfl⟩
        have g_z258 : (0 : Int) ≤ s251 256 36 ∧ s251 256 36 ≤ 160 := hG_s251 256 36
        obtain ⟨z259, e_z259⟩ : ∃ z, z = s251 256 39 := ⟨_, rfl⟩
        have g_z259 : (0 : Int) ≤ s251 256 39 ∧ s251 256 39 ≤ 1100000 := hG_s251 256 39
        obtain ⟨z260, e_z260⟩ : ∃ z, z = s251 256 35 := ⟨_, rfl⟩
        have g_z260 : (-2147483648) ≤ s251 256 35 ∧ s251 256 35 ≤ 2147483647 := hG_s251 256 35
        show xe none 197 225 [(3, vi z244), (2, vi z235), (1, vi 4), (0, .ref 256)] [vi z250] s251 0 0 _
        have n2 := xp_z250
        clear xp_z250
        rw [show s236 283 = s0 283 from funext fun i => f_s236 283 i (show 5824 ∉ [4133, 4136, 4132, 6080, 6144, 4144, 4145, 4148] from by decide +kernel), show s236 256 34 = s0 256 34 from f_s236 256 34 (show 4131 ∉ [4133, 4136, 4132, 6080, 6144, 4144, 4145, 4148] from by decide +kernel), show s236 256 36 = te (s0 283) (s0 256 34) (nx (s0 283) (s0 256 34) (s0 256 36)) by omega] at n2
        rw [show sk (s0 283) (s0 256 34) (te (s0 283) (s0 256 34) (nx (s0 283) (s0 256 34) (s0 256 36))) = nx (s0 283) (s0 256 34) (nx (s0 283) (s0 256 34) (s0 256 36)) from rfl] at n2
        refine x_istore_n k197_225 (ls' := [(2, vi z250), (3, vi z244), (1, vi 4), (0, .ref 256)]) (by decide) rfl ?_
        refine x_bipush k197_226 (by decide +kernel) ?_
        refine x_A k197_228 (fun _ => rfl) ?_
        refine x_imul k197_229 ?_
        refine x_top (fun z261 e_z261 => ?_)
        refine x_A k197_230 (fun _ => rfl) ?_
        refine x_getI k197_231 (f := 39) rfl (q := 256) (n := 62) (kd := 15) ⟨by decide, rfl⟩ (by decide) rfl ?_
        refine x_rw (e_z259.symm) ?_
        refine x_iadd k197_234 ?_
        refine x_top (fun z262 e_z262 => ?_)
        refine x_istore_n k197_235 (ls' := [(3, vi z262), (2, vi z250), (1, vi 4), (0, .ref 256)]) (by decide) rfl ?_
        refine x_A k197_236 (fun _ => rfl) ?_
        refine x_if_ne k197_237 (t := 256) rfl (by first | exact x_rbe e_z250 g_z250 rfl rfl | exact x_rb g_z250 rfl rfl | exact ⟨by omega, by omega⟩) (fun c263 => ?_) (fun c263 => ?_)
        · skip
          obtain ⟨n2z, -, n2c, -, -, n2f, n2g⟩ := n2
          specialize n2c (by omega)
          specialize n2g (by omega)
          refine x_A k197_256 (fun _ => rfl) ?_
          obtain ⟨z264, e_z264⟩ : ∃ z, z = s251 256 51 := ⟨_, rfl⟩
          have g_z264 : (0 : Int) ≤ s251 256 51 ∧ s251 256 51 ≤ 1 := hG_s251 256 51
          exact x_iret k197_257 rfl ⟨hG_s251, f_s251, z250, rfl, (by first | exact x_rbe e_z250 g_z250 rfl rfl | exact x_rb g_z250 rfl rfl | exact ⟨by omega, by omega⟩), ⟨(by have lh : lhi (lkd (s0 283) (s0 256 34) (s0 256 36)) = 3 := (by rw [lkK]; rfl); have l2 := lff_2 (T := s0 283) (n := s0 256 34) (p := s0 256 36) lkK (by omega); exact ⟨by omega, fun w => by omega, fun w => ⟨by rw [show s251 256 36 = te (s0 283) (s0 256 34) (nx (s0 283) (s0 256 34) (nx (s0 283) (s0 256 34) (s0 256 36))) by omega, l2.2.2]; rfl, by omega⟩⟩), ⟨fun hz => by exfalso; omega, fun hz => by exfalso; omega⟩⟩, J_s251⟩
        · skip
          obtain ⟨n2z, n2a, -, n2d, n2e, n2f, n2g⟩ := n2
          specialize n2a (by omega)
          specialize n2d (by omega)
          specialize n2e (by omega)
          specialize n2g (by omega)
          refine x_A k197_240 (fun _ => rfl) ?_
          refine x_A k197_241 (fun _ => rfl) ?_
          refine x_A k197_242 (fun _ => rfl) ?_
          refine x_callV k197_243 (y := 194) (n := 2) (w0 := 0) (w1 := 2) (as := [vi 4, vi z262]) (rest := []) (by decide +kernel) (q := 256) (nq := 62) (kq := 15) ⟨by decide, rfl⟩ rfl rfl rfl rfl (xe_mono (C_X11_put_256 s251 hG_s251 4 ⟨by decide, by decide⟩ z262 (by first | exact x_rbe e_z262 g_z262 rfl rfl | exact x_rb g_z262 rfl rfl | exact ⟨by omega, by omega⟩) ⟨by omega, by omega⟩ ⟨by omega, by omega⟩ J_s251) ?_)
          rintro s266 v ⟨hG_s266, t_s266, rfl, xp_z265, J_s266⟩
          have f_s266 : FL [4133, 4136, 4132, 6080, 6144, 4144, 4145, 4148] s0 s266 := f_s251.tr t_s266 (by decide +kernel)
          have q267 : s266 256 48 = z2 := (t_s266 256 48 (show 4145 ∉ [6080, 6144, 4144] from by decide +kernel)).trans q253
          have q268 : s266 256 34 = z4 := (t_s266 256 34 (show 4131 ∉ [6080, 6144, 4144] from by decide +kernel)).trans q254
          have q269 : s266 256 43 = z5 := (t_s266 256 43 (show 4140 ∉ [6080, 6144, 4144] from by decide +kernel)).trans q255
          have q270 : s266 256 38 = z6 := (t_s266 256 38 (show 4135 ∉ [6080, 6144, 4144] from by decide +kernel)).trans q256
          have q271 : s266 256 50 = z7 := (t_s266 256 50 (show 4147 ∉ [6080, 6144, 4144] from by decide +kernel)).trans q257
          have q272 : s266 256 36 = z258 := (t_s266 256 36 (show 4133 ∉ [6080, 6144, 4144] from by decide +kernel)).trans e_z258.symm
          have q273 : s266 256 39 = z259 := (t_s266 256 39 (show 4136 ∉ [6080, 6144, 4144] from by decide +kernel)).trans e_z259.symm
          have q274 : s266 256 35 = z260 := (t_s266 256 35 (show 4132 ∉ [6080, 6144, 4144] from by decide +kernel)).trans e_z260.symm
          show xe none 197 246 [(3, vi z262), (2, vi z250), (1, vi 4), (0, .ref 256)] [] s266 0 0 _
          obtain ⟨z275, e_z275⟩ : ∃ z, z = s266 256 47 := ⟨_, rfl⟩
          have g_z275 : (0 : Int) ≤ s266 256 47 ∧ s266 256 47 ≤ 110 := hG_s266 256 47
          have A1_l : AW s266 1 (s0 256 50) (s0 256 47 + s0 256 48 + 1) := AW.leaf A0_s251 (by omega) (by omega) (by omega) (by omega) (by omega) (by omega) (funext fun i => t_s266 289 i (show 6208 ∉ _ from by decide)) xp_z265.2
          have s_l := A1_l.2.2.2
          have AW1_l := AW.rf A1_l
          refine x_A k197_246 (fun _ => rfl) ?_
          refine x_A k197_247 (fun _ => rfl) ?_
          refine x_callV k197_248 (y := 195) (n := 1) (w0 := 0) (w1 := 1) (as := [vi 2]) (rest := []) (by decide +kernel) (q := 256) (nq := 62) (kq := 15) ⟨by decide, rfl⟩ rfl rfl rfl rfl (xe_mono (C_X11_work_256 s266 hG_s266 2 ⟨by decide, by decide⟩ ⟨by omega, by omega⟩ ⟨by omega, by omega⟩ ⟨by omega, by omega⟩ (by omega) (by omega) J_s266 AW1_l) ?_)
          rintro s277 v ⟨hG_s277, t_s277, rfl, xp_z276, J_s277, AW1_s277⟩
          have f_s277 : FL [4133, 4136, 4132, 6080, 6144, 4144, 4145, 4148] s0 s277 := f_s266.tr t_s277 (by decide +kernel)
          have q278 : s277 256 34 = z4 := (t_s277 256 34 (show 4131 ∉ [6080, 6144, 4144, 4145] from by decide +kernel)).trans q268
          have q279 : s277 256 43 = z5 := (t_s277 256 43 (show 4140 ∉ [6080, 6144, 4144, 4145] from by decide +kernel)).trans q269
          have q280 : s277 256 38 = z6 := (t_s277 256 38 (show 4135 ∉ [6080, 6144, 4144, 4145] from by decide +kernel)).trans q270
          have q281 : s277 256 50 = z7 := (t_s277 256 50 (show 4147 ∉ [6080, 6144, 4144, 4145] from by decide +kernel)).trans q271
          have q282 : s277 256 36 = z258 := (t_s277 256 36 (show 4133 ∉ [6080, 6144, 4144, 4145] from by decide +kernel)).trans q272
          have q283 : s277 256 39 = z259 := (t_s277 256 39 (show 4136 ∉ [6080, 6144, 4144, 4145] from by decide +kernel)).trans q273
          have q284 : s277 256 35 = z260 := (t_s277 256 35 (show 4132 ∉ [6080, 6144, 4144, 4145] from by decide +kernel)).trans q274
          show xe none 197 251 [(3, vi z262), (2, vi z250), (1, vi 4), (0, .ref 256)] [] s277 0 0 _
          have A1_w : AW s277 1 (s0 256 50) (s0 256 47 + s0 256 48 + 1) := AW.tr A1_l AW1_s277
          have s_A1_w := A1_w.2.2.2
          obtain ⟨z285, e_z285⟩ : ∃ z, z = s277 256 47 := ⟨_, rfl⟩
          have g_z285 : (0 : Int) ≤ s277 256 47 ∧ s277 256 47 ≤ 110 := hG_s277 256 47
          obtain ⟨z286, e_z286⟩ : ∃ z, z = s277 256 48 := ⟨_, rfl⟩
          have g_z286 : (0 : Int) ≤ s277 256 48 ∧ s277 256 48 ≤ 120 := hG_s277 256 48
          refine x_A k197_251 (fun _ => rfl) ?_
          refine x_A k197_252 (fun _ => rfl) ?_
          refine x_putZ k197_253 (f := 51) rfl (q := 256) (n := 62) (kd := 15) ⟨by decide, rfl⟩ rfl rfl rfl ⟨by omega, by omega⟩ ?_
          refine x_nh (fun s287 e_s287 => ?_)
          have hG_s287 : GI s287 := by rw [e_s287]; exact hG_s277.up (show 0 ≤ 0 ∧ 0 ≤ 1 from ⟨by decide, by decide⟩)
          have f_s287 : FL [4133, 4136, 4132, 6080, 6144, 4144, 4145, 4148] s0 s287 := by rw [e_s287]; exact f_s277.up (show 4148 ∈ [4133, 4136, 4132, 6080, 6144, 4144, 4145, 4148] from by decide +kernel)
          have q288 : s287 256 34 = z4 := by rw [e_s287, x_up_i (by decide)]; exact q278
          have q289 : s287 256 43 = z5 := by rw [e_s287, x_up_i (by decide)]; exact q279
          have q290 : s287 256 38 = z6 := by rw [e_s287, x_up_i (by decide)]; exact q280
          have q291 : s287 256 50 = z7 := by rw [e_s287, x_up_i (by decide)]; exact q281
          have q292 : s287 256 36 = z258 := by rw [e_s287, x_up_i (by decide)]; exact q282
          have q293 : s287 256 39 = z259 := by rw [e_s287, x_up_i (by decide)]; exact q283
          have q294 : s287 256 35 = z260 := by rw [e_s287, x_up_i (by decide)]; exact q284
          have q295 : s287 256 47 = z285 := by rw [e_s287, x_up_i (by decide)]; exact e_z285.symm
          have q296 : s287 256 48 = z286 := by rw [e_s287, x_up_i (by decide)]; exact e_z286.symm
          have q297 : s287 256 51 = 0 := by rw [e_s287]; exact x_up_same
          have J_s287 : J s287 := by rw [e_s287]; exact J.up J_s277 (show 4148 ∉ LJ from by decide)
          have A1_s287 : AW s287 1 (s0 256 50) (s0 256 47 + s0 256 48 + 1) := by rw [e_s287]; exact AW.up A1_w (show 4148 ∉ [6080, 4140, 4144, 4145, 6208] from by decide +kernel)
          refine x_A k197_256 (fun _ => rfl) ?_
          exact x_iret k197_257 rfl ⟨hG_s287, f_s287, z250, rfl, (by first | exact x_rbe e_z250 g_z250 rfl rfl | exact x_rb g_z250 rfl rfl | exact ⟨by omega, by omega⟩), ⟨(by have lh : lhi (lkd (s0 283) (s0 256 34) (s0 256 36)) = 3 := (by rw [lkK]; rfl); have l2 := lff_2 (T := s0 283) (n := s0 256 34) (p := s0 256 36) lkK (by omega); exact ⟨by omega, fun w => by omega, fun w => ⟨by rw [show s287 256 36 = te (s0 283) (s0 256 34) (nx (s0 283) (s0 256 34) (nx (s0 283) (s0 256 34) (s0 256 36))) by omega, l2.2.2]; rfl, by omega⟩⟩), ⟨fun hz => by omega, fun hz => A1_s287⟩⟩, J_s287⟩
  · skip
    refine x_A k197_21 (fun _ => rfl) ?_
    refine x_goto k197_22 (t := 128) rfl ?_
    refine x_istore_n k197_128 (ls' := [(1, vi 3), (0, .ref 256)]) (by decide) rfl ?_
    have lkK : lkd (s0 283) (s0 256 34) (s0 256 36) = 1 := by
      have lc := lkw_cs (wv (s0 283) (s0 256 34) (s0 256 36))
      have lk : lkw (wv (s0 283) (s0 256 34) (s0 256 36)) = lkd (s0 283) (s0 256 34) (s0 256 36) := rfl
      clear pc pb
      omega
    have wkA := (wv_kd (T := s0 283) (n := s0 256 34) (p := s0 256 36) (by clear pc pb; omega)).2
    have tlA := (te_le (T := s0 283) (n := s0 256 34) (p := s0 256 36)).1
    have tlB := (te_le (T := s0 283) (n := s0 256 34) (p := s0 256 36)).2.1 (by omega)
    obtain ⟨pc1, pc2⟩ := pc
    specialize pc1 (by omega)
    refine x_A k197_129 (fun _ => rfl) ?_
    refine x_if_ge k197_130 (t := 143) rfl ⟨by decide, by decide⟩ (fun c298 => ?_) (fun c298 => by exfalso; omega)
    refine x_A k197_143 (fun _ => rfl) ?_
    refine x_A k197_144 (fun _ => rfl) ?_
    refine x_getI k197_145 (f := 38) rfl (q := 256) (n := 62) (kd := 15) ⟨by decide, rfl⟩ (by decide) rfl ?_
    refine x_rw (e_z6.symm) ?_
    refine x_putI k197_148 (f := 36) rfl (q := 256) (n := 62) (kd := 15) ⟨by decide, rfl⟩ rfl rfl rfl ?_
    refine x_nh (fun s299 e_s299 => ?_)
    have hG_s299 : GI s299 := by rw [e_s299]; exact hG0.up (show 0 ≤ z6 ∧ z6 ≤ 160 from (by first | exact x_rbe e_z6 g_z6 rfl rfl | exact x_rb g_z6 rfl rfl | exact ⟨by omega, by omega⟩))
    have f_s299 : FL [4133, 4136, 4132, 6080, 6144, 4144, 4145, 4148] s0 s299 := by rw [e_s299]; exact f0.up (show 4133 ∈ [4133, 4136, 4132, 6080, 6144, 4144, 4145, 4148] from by decide +kernel)
    have q300 : s299 256 47 = z1 := by rw [e_s299, x_up_i (by decide)]; exact e_z1.symm
    have q301 : s299 256 48 = z2 := by rw [e_s299, x_up_i (by decide)]; exact e_z2.symm
    have q302 : s299 256 34 = z4 := by rw [e_s299, x_up_i (by decide)]; exact e_z4.symm
    have q303 : s299 256 43 = z5 := by rw [e_s299, x_up_i (by decide)]; exact e_z5.symm
    have q304 : s299 256 38 = z6 := by rw [e_s299, x_up_i (by decide)]; exact e_z6.symm
    have q305 : s299 256 50 = z7 := by rw [e_s299, x_up_i (by decide)]; exact e_z7.symm
    have q306 : s299 256 35 = z8 := by rw [e_s299, x_up_i (by decide)]; exact e_z8.symm
    have q307 : s299 256 36 = z6 := by rw [e_s299]; exact x_up_same
    have J_s299 : J s299 := by rw [e_s299]; exact J.up i0_J (show 4133 ∉ LJ from by decide)
    have A0_s299 : AW s299 0 (s0 256 50) (s0 256 47 + s0 256 48) := by rw [e_s299]; exact AW.up i0_A0 (show 4133 ∉ [6080, 4140, 4144, 4145, 6208] from by decide +kernel)
    refine x_A k197_151 (fun _ => rfl) ?_
    refine x_A k197_152 (fun _ => rfl) ?_
    refine x_A k197_153 (fun _ => rfl) ?_
    refine x_A k197_154 (fun _ => rfl) ?_
    refine x_ic_ne k197_155 (t := 163) rfl ⟨by decide, by decide⟩ ⟨by decide, by decide⟩ (fun c308 => by exfalso; omega) (fun c308 => ?_)
    refine x_bipush k197_158 (by decide +kernel) ?_
    refine x_goto k197_160 (t := 196) rfl ?_
    refine x_A k197_196 (fun _ => rfl) ?_
    refine x_A k197_197 (fun _ => rfl) ?_
    refine x_callV k197_198 (y := 180) (n := 4) (w0 := 0) (w1 := 4) (as := [vi 0, vi 39, vi 3, vi 2]) (rest := []) (by decide +kernel) (q := 256) (nq := 62) (kq := 15) ⟨by decide, rfl⟩ rfl rfl rfl rfl (xe_mono (E_X11_readNumber_256 s299 hG_s299 0 ⟨by decide, by decide⟩ 39 ⟨by decide, by decide⟩ 3 ⟨by decide, by decide⟩ 2 ⟨by decide, by decide⟩ (by omega)) ?_)
    rintro s310 v ⟨hG_s310, t_s310, z309, rfl, g_z309, xp_z309⟩
    have f_s310 : FL [4133, 4136, 4132, 6080, 6144, 4144, 4145, 4148] s0 s310 := f_s299.tr t_s310 (by decide +kernel)
    have q311 : s310 256 47 = z1 := (t_s310 256 47 (show 4144 ∉ [4133, 4136, 4132] from by decide +kernel)).trans q300
    have q312 : s310 256 48 = z2 := (t_s310 256 48 (show 4145 ∉ [4133, 4136, 4132] from by decide +kernel)).trans q301
    have q313 : s310 256 34 = z4 := (t_s310 256 34 (show 4131 ∉ [4133, 4136, 4132] from by decide +kernel)).trans q302
    have q314 : s310 256 43 = z5 := (t_s310 256 43 (show 4140 ∉ [4133, 4136, 4132] from by decide +kernel)).trans q303
    have q315 : s310 256 38 = z6 := (t_s310 256 38 (show 4135 ∉ [4133, 4136, 4132] from by decide +kernel)).trans q304
    have q316 : s310 256 50 = z7 := (t_s310 256 50 (show 4147 ∉ [4133, 4136, 4132] from by decide +kernel)).trans q305
    have J_s310 : J s310 := J.fl J_s299 t_s310 (by decide +kernel)
    have A0_s310 : AW s310 0 (s0 256 50) (s0 256 47 + s0 256 48) := AW.fl A0_s299 t_s310 (by decide +kernel)
    obtain ⟨z317, e_z317⟩ : ∃ z, z = s310 256 36 := ⟨_, rfl⟩
    have g_z317 : (0 : Int) ≤ s310 256 36 ∧ s310 256 36 ≤ 160 := hG_s310 256 36
    obtain ⟨z318, e_z318⟩ : ∃ z, z = s310 256 39 := ⟨_, rfl⟩
    have g_z318 : (0 : Int) ≤ s310 256 39 ∧ s310 256 39 ≤ 1100000 := hG_s310 256 39
    obtain ⟨z319, e_z319⟩ : ∃ z, z = s310 256 35 := ⟨_, rfl⟩
    have g_z319 : (-2147483648) ≤ s310 256 35 ∧ s310 256 35 ≤ 2147483647 := hG_s310 256 35
    show xe none 197 201 [(1, vi 3), (0, .ref 256)] [vi z309] s310 0 0 _
    have n1 := xp_z309
    clear xp_z309
    rw [show s299 283 = s0 283 from funext fun i => f_s299 283 i (show 5824 ∉ [4133, 4136, 4132, 6080, 6144, 4144, 4145, 4148] from by decide +kernel), show s299 256 34 = s0 256 34 from f_s299 256 34 (show 4131 ∉ [4133, 4136, 4132, 6080, 6144, 4144, 4145, 4148] from by decide +kernel), show s299 256 36 = te (s0 283) (s0 256 34) (s0 256 36) by omega] at n1
    rw [show sk (s0 283) (s0 256 34) (te (s0 283) (s0 256 34) (s0 256 36)) = nx (s0 283) (s0 256 34) (s0 256 36) from rfl] at n1
    refine x_istore_n k197_201 (ls' := [(2, vi z309), (1, vi 3), (0, .ref 256)]) (by decide) rfl ?_
    refine x_A k197_202 (fun _ => rfl) ?_
    refine x_getI k197_203 (f := 39) rfl (q := 256) (n := 62) (kd := 15) ⟨by decide, rfl⟩ (by decide) rfl ?_
    refine x_rw (e_z318.symm) ?_
    refine x_istore_n k197_206 (ls' := [(3, vi z318), (2, vi z309), (1, vi 3), (0, .ref 256)]) (by decide) rfl ?_
    refine x_A k197_207 (fun _ => rfl) ?_
    refine x_A k197_208 (fun _ => rfl) ?_
    refine x_ic_ne k197_209 (t := 236) rfl ⟨by decide, by decide⟩ ⟨by decide, by decide⟩ (fun c320 => ?_) (fun c320 => by exfalso; omega)
    refine x_A k197_236 (fun _ => rfl) ?_
    refine x_if_ne k197_237 (t := 256) rfl (by first | exact x_rbe e_z309 g_z309 rfl rfl | exact x_rb g_z309 rfl rfl | exact ⟨by omega, by omega⟩) (fun c321 => ?_) (fun c321 => ?_)
    · skip
      obtain ⟨n1z, -, n1c, -, -, n1f, n1g⟩ := n1
      specialize n1c (by omega)
      specialize n1g (by omega)
      refine x_A k197_256 (fun _ => rfl) ?_
      obtain ⟨z322, e_z322⟩ : ∃ z, z = s310 256 51 := ⟨_, rfl⟩
      have g_z322 : (0 : Int) ≤ s310 256 51 ∧ s310 256 51 ≤ 1 := hG_s310 256 51
      exact x_iret k197_257 rfl ⟨hG_s310, f_s310, z309, rfl, (by first | exact x_rbe e_z309 g_z309 rfl rfl | exact x_rb g_z309 rfl rfl | exact ⟨by omega, by omega⟩), ⟨(by have lh : lhi (lkd (s0 283) (s0 256 34) (s0 256 36)) = 39 := (by rw [lkK]; rfl); have l1 := lff_1 (T := s0 283) (n := s0 256 34) (p := s0 256 36) (by omega) (by rw [lh]; omega); rw [lh] at l1; exact ⟨by omega, fun w => by omega, fun w => by omega⟩), ⟨fun hz => by exfalso; omega, fun hz => by exfalso; omega⟩⟩, J_s310⟩
    · skip
      obtain ⟨n1z, n1a, -, n1d, n1e, n1f, n1g⟩ := n1
      specialize n1a (by omega)
      specialize n1d (by omega)
      specialize n1e (by omega)
      specialize n1g (by omega)
      refine x_A k197_240 (fun _ => rfl) ?_
      refine x_A k197_241 (fun _ => rfl) ?_
      refine x_A k197_242 (fun _ => rfl) ?_
      refine x_callV k197_243 (y := 194) (n := 2) (w0 := 0) (w1 := 2) (as := [vi 3, vi z318]) (rest := []) (by decide +kernel) (q := 256) (nq := 62) (kq := 15) ⟨by decide, rfl⟩ rfl rfl rfl rfl (xe_mono (C_X11_put_256 s310 hG_s310 3 ⟨by decide, by decide⟩ z318 (by first | exact x_rbe e_z318 g_z318 rfl rfl | exact x_rb g_z318 rfl rfl | exact ⟨by omega, by omega⟩) ⟨by omega, by omega⟩ ⟨by omega, by omega⟩ J_s310) ?_)
      rintro s324 v ⟨hG_s324, t_s324, rfl, xp_z323, J_s324⟩
      have f_s324 : FL [4133, 4136, 4132, 6080, 6144, 4144, 4145, 4148] s0 s324 := f_s310.tr t_s324 (by decide +kernel)
      have q325 : s324 256 48 = z2 := (t_s324 256 48 (show 4145 ∉ [6080, 6144, 4144] from by decide +kernel)).trans q312
      have q326 : s324 256 34 = z4 := (t_s324 256 34 (show 4131 ∉ [6080, 6144, 4144] from by decide +kernel)).trans q313
      have q327 : s324 256 43 = z5 := (t_s324 256 43 (show 4140 ∉ [6080, 6144, 4144] from by decide +kernel)).trans q314
      have q328 : s324 256 38 = z6 := (t_s324 256 38 (show 4135 ∉ [6080, 6144, 4144] from by decide +kernel)).trans q315
      have q329 : s324 256 50 = z7 := (t_s324 256 50 (show 4147 ∉ [6080, 6144, 4144] from by decide +kernel)).trans q316
      have q330 : s324 256 36 = z317 := (t_s324 256 36 (show 4133 ∉ [6080, 6144, 4144] from by decide +kernel)).trans e_z317.symm
      have q331 : s324 256 39 = z318 := (t_s324 256 39 (show 4136 ∉ [6080, 6144, 4144] from by decide +kernel)).trans e_z318.symm
      have q332 : s324 256 35 = z319 := (t_s324 256 35 (show 4132 ∉ [6080, 6144, 4144] from by decide +kernel)).trans e_z319.symm
      show xe none 197 246 [(3, vi z318), (2, vi z309), (1, vi 3), (0, .ref 256)] [] s324 0 0 _
      obtain ⟨z333, e_z333⟩ : ∃ z, z = s324 256 47 := ⟨_, rfl⟩
      have g_z333 : (0 : Int) ≤ s324 256 47 ∧ s324 256 47 ≤ 110 := hG_s324 256 47
      have A1_l : AW s324 1 (s0 256 50) (s0 256 47 + s0 256 48 + 1) := AW.leaf A0_s310 (by omega) (by omega) (by omega) (by omega) (by omega) (by omega) (funext fun i => t_s324 289 i (show 6208 ∉ _ from by decide)) xp_z323.2
      have s_l := A1_l.2.2.2
      have AW1_l := AW.rf A1_l
      refine x_A k197_246 (fun _ => rfl) ?_
      refine x_A k197_247 (fun _ => rfl) ?_
      refine x_callV k197_248 (y := 195) (n := 1) (w0 := 0) (w1 := 1) (as := [vi 2]) (rest := []) (by decide +kernel) (q := 256) (nq := 62) (kq := 15) ⟨by decide, rfl⟩ rfl rfl rfl rfl (xe_mono (C_X11_work_256 s324 hG_s324 2 ⟨by decide, by decide⟩ ⟨by omega, by omega⟩ ⟨by omega, by omega⟩ ⟨by omega, by omega⟩ (by omega) (by omega) J_s324 AW1_l) ?_)
      rintro s335 v ⟨hG_s335, t_s335, rfl, xp_z334, J_s335, AW1_s335⟩
      have f_s335 : FL [4133, 4136, 4132, 6080, 6144, 4144, 4145, 4148] s0 s335 := f_s324.tr t_s335 (by decide +kernel)
      have q336 : s335 256 34 = z4 := (t_s335 256 34 (show 4131 ∉ [6080, 6144, 4144, 4145] from by decide +kernel)).trans q326
      have q337 : s335 256 43 = z5 := (t_s335 256 43 (show 4140 ∉ [6080, 6144, 4144, 4145] from by decide +kernel)).trans q327
      have q338 : s335 256 38 = z6 := (t_s335 256 38 (show 4135 ∉ [6080, 6144, 4144, 4145] from by decide +kernel)).trans q328
      have q339 : s335 256 50 = z7 := (t_s335 256 50 (show 4147 ∉ [6080, 6144, 4144, 4145] from by decide +kernel)).trans q329
      have q340 : s335 256 36 = z317 := (t_s335 256 36 (show 4133 ∉ [6080, 6144, 4144, 4145] from by decide +kernel)).trans q330
      have q341 : s335 256 39 = z318 := (t_s335 256 39 (show 4136 ∉ [6080, 6144, 4144, 4145] from by decide +kernel)).trans q331
      have q342 : s335 256 35 = z319 := (t_s335 256 35 (show 4132 ∉ [6080, 6144, 4144, 4145] from by decide +kernel)).trans q332
      show xe none 197 251 [(3, vi z318), (2, vi z309), (1, vi 3), (0, .ref 256)] [] s335 0 0 _
      have A1_w : AW s335 1 (s0 256 50) (s0 256 47 + s0 256 48 + 1) := AW.tr A1_l AW1_s335
      have s_A1_w := A1_w.2.2.2
      obtain ⟨z343, e_z343⟩ : ∃ z, z = s335 256 47 := ⟨_, rfl⟩
      have g_z343 : (0 : Int) ≤ s335 256 47 ∧ s335 256 47 ≤ 110 := hG_s335 256 47
      obtain ⟨z344, e_z344⟩ : ∃ z, z = s335 256 48 := ⟨_, rfl⟩
      have g_z344 : (0 : Int) ≤ s335 256 48 ∧ s335 256 48 ≤ 120 := hG_s335 256 48
      refine x_A k197_251 (fun _ => rfl) ?_
      refine x_A k197_252 (fun _ => rfl) ?_
      refine x_putZ k197_253 (f := 51) rfl (q := 256) (n := 62) (kd := 15) ⟨by decide, rfl⟩ rfl rfl rfl ⟨by omega, by omega⟩ ?_
      refine x_nh (fun s345 e_s345 => ?_)
      have hG_s345 : GI s345 := by rw [e_s345]; exact hG_s335.up (show 0 ≤ 0 ∧ 0 ≤ 1 from ⟨by decide, by decide⟩)
      have f_s345 : FL [4133, 4136, 4132, 6080, 6144, 4144, 4145, 4148] s0 s345 := by rw [e_s345]; exact f_s335.up (show 4148 ∈ [4133, 4136, 4132, 6080, 6144, 4144, 4145, 4148] from by decide +kernel)
      have q346 : s345 256 34 = z4 := by rw [e_s345, x_up_i (by decide)]; exact q336
      have q347 : s345 256 43 = z5 := by rw [e_s345, x_up_i (by decide)]; exact q337
      have q348 : s345 256 38 = z6 := by rw [e_s345, x_up_i (by decide)]; exact q338
      have q349 : s345 256 50 = z7 := by rw [e_s345, x_up_i (by decide)]; exact q339
      have q350 : s345 256 36 = z317 := by rw [e_s345, x_up_i (by decide)]; exact q340
      have q351 : s345 256 39 = z318 := by rw [e_s345, x_up_i (by decide)]; exact q341
      have q352 : s345 256 35 = z319 := by rw [e_s345, x_up_i (by decide)]; exact q342
      have q353 : s345 256 47 = z343 := by rw [e_s345, x_up_i (by decide)]; exact e_z343.symm
      have q354 : s345 256 48 = z344 := by rw [e_s345, x_up_i (by decide)]; exact e_z344.symm
      have q355 : s345 256 51 = 0 := by rw [e_s345]; exact x_up_same
      have J_s345 : J s345 := by rw [e_s345]; exact J.up J_s335 (show 4148 ∉ LJ from by decide)
      have A1_s345 : AW s345 1 (s0 256 50) (s0 256 47 + s0 256 48 + 1) := by rw [e_s345]; exact AW.up A1_w (show 4148 ∉ [6080, 4140, 4144, 4145, 6208] from by decide +kernel)
      refine x_A k197_256 (fun _ => rfl) ?_
      exact x_iret k197_257 rfl ⟨hG_s345, f_s345, z309, rfl, (by first | exact x_rbe e_z309 g_z309 rfl rfl | exact x_rb g_z309 rfl rfl | exact ⟨by omega, by omega⟩), ⟨(by have lh : lhi (lkd (s0 283) (s0 256 34) (s0 256 36)) = 39 := (by rw [lkK]; rfl); have l0 := lff_0 (T := s0 283) (n := s0 256 34) (p := s0 256 36) (by omega) (by omega) (by rw [lh]; omega); exact ⟨by omega, fun w => by omega, fun w => ⟨by rw [show s345 256 36 = te (s0 283) (s0 256 34) (nx (s0 283) (s0 256 34) (s0 256 36)) by omega, l0.2]; rfl, by omega⟩⟩), ⟨fun hz => by omega, fun hz => A1_s345⟩⟩, J_s345⟩
