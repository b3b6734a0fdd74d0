set_option maxHeartbeats 8000000 in
theorem V_X10_tree_0 (s0 : xS) (hG0 : GI s0) (hJ0 : J s0) (a : Int) (b_a : (-2147483648) ≤ a ∧ a ≤ 2147483647) (b : Int) (b_b : (-2147483648) ≤ b ∧ b ≤ 2147483647) (d : Int) (b_d : (-2147483648) ≤ d ∧ d ≤ 2147483647) (pR : R1 s0) (i0_VCj : VCj s0) (i0_VCl : VCl s0) : xe none 95 0 (lv_args 0 [.ref 0, vi a, vi b, vi d]) [] s0 0 0 (fun s' v => GI s' ∧ FL [3329, 3334, 3335, 3336, 3392, 3456, 3520, 3584, 3276, 3648, 3712, 3776, 3840, 3904, 3968, 3277, 4032] s0 s' ∧ ∃ z, v = some (vi z) ∧ ((-1004) ≤ z ∧ z ≤ 127) ∧ VCj s' ∧ VCl s') := by
  have f0 : FL [3329, 3334, 3335, 3336, 3392, 3456, 3520, 3584, 3276, 3648, 3712, 3776, 3840, 3904, 3968, 3277, 4032] s0 s0 := FL.rf
  show xe none 95 0 [(0, .ref 0), (1, vi a), (2, vi b), (3, vi d)] [] s0 0 0 _
  refine x_A k95_0 (fun _ => rfl) ?_
  refine x_getR k95_1 (f := 0) rfl (q := 0) (n := 12) (kd := 3) ⟨by decide, rfl⟩ (q2 := 1) (by decide) rfl ?_
  refine x_A k95_4 (fun _ => rfl) ?_
  obtain ⟨z1, e_z1⟩ : ∃ z, z = s0 1 4 := ⟨_, rfl⟩
  have g_z1 : (1 : Int) ≤ s0 1 4 ∧ s0 1 4 ≤ 40 := hG0 1 4
  refine x_callV k95_5 (y := 59) (n := 1) (w0 := 0) (w1 := 1) (as := [vi a]) (rest := []) (by decide +kernel) (q := 1) (nq := 5) (kq := 4) ⟨by decide, rfl⟩ rfl rfl rfl rfl (xe_mono (C_X7_has_1 s0 hG0 a (by first | exact x_rb b_a rfl rfl | exact ⟨by omega, by omega⟩)) ?_)
  rintro s3 v ⟨h_s3, z2, rfl, hz_z2⟩
  rw [h_s3]
  rcases hz_z2 with ⟨c_z2, e_z2⟩ | ⟨c_z2, e_z2⟩
  · rw [e_z2]
    show xe none 95 8 [(0, .ref 0), (1, vi a), (2, vi b), (3, vi d)] [vi 1] s0 0 0 _
    refine x_if_ne k95_8 (t := 15) rfl ⟨by decide, by decide⟩ (fun c4 => ?_) (fun c4 => by exfalso; omega)
    refine x_A k95_15 (fun _ => rfl) ?_
    refine x_A k95_16 (fun _ => rfl) ?_
    obtain ⟨z5, e_z5⟩ : ∃ z, z = s0 0 10 := ⟨_, rfl⟩
    have g_z5 : (0 : Int) ≤ s0 0 10 ∧ s0 0 10 ≤ 9 := hG0 0 10
    refine x_callV k95_17 (y := 125) (n := 1) (w0 := 0) (w1 := 1) (as := [vi b]) (rest := []) (by decide +kernel) (q := 0) (nq := 12) (kq := 3) ⟨by decide, rfl⟩ rfl rfl rfl rfl (xe_mono (C_X10_isKnownEdition_0 s0 hG0 b (by first | exact x_rb b_b rfl rfl | exact ⟨by omega, by omega⟩)) ?_)
    rintro s7 v ⟨h_s7, z6, rfl, hz_z6⟩
    rw [h_s7]
    rcases hz_z6 with ⟨c_z6, e_z6⟩ | ⟨c_z6, e_z6⟩
    · rw [e_z6]
      show xe none 95 20 [(0, .ref 0), (1, vi a), (2, vi b), (3, vi d)] [vi 1] s0 0 0 _
      refine x_if_eq k95_20 (t := 33) rfl ⟨by decide, by decide⟩ (fun c8 => by exfalso; omega) (fun c8 => ?_)
      refine x_A k95_23 (fun _ => rfl) ?_
      refine x_A k95_24 (fun _ => rfl) ?_
      refine x_bipush k95_25 (by decide +kernel) ?_
      refine x_callS k95_27 (y := 121) (n := 3) (w0 := 0) (w1 := 3) (as := [vi d, vi 0, vi 6]) (rest := []) (by decide +kernel) rfl rfl rfl rfl (xe_mono (C_X10_isWithin s0 hG0 d (by first | exact x_rb b_d rfl rfl | exact ⟨by omega, by omega⟩) 0 ⟨by decide, by decide⟩ 6 ⟨by decide, by decide⟩) ?_)
      rintro s10 v ⟨h_s10, z9, rfl, hz_z9⟩
      rw [h_s10]
      rcases hz_z9 with ⟨c_z9, e_z9⟩ | ⟨c_z9, e_z9⟩
      · rw [e_z9]
        show xe none 95 30 [(0, .ref 0), (1, vi a), (2, vi b), (3, vi d)] [vi 1] s0 0 0 _
        refine x_if_ne k95_30 (t := 37) rfl ⟨by decide, by decide⟩ (fun c11 => ?_) (fun c11 => by exfalso; omega)
        refine x_A k95_37 (fun _ => rfl) ?_
        have c12 : d = 0 ∨ d = 1 ∨ d = 2 ∨ d = 3 ∨ d = 4 ∨ d = 5 ∨ ¬ (0 ≤ d ∧ d ≤ 5) := by omega
        rcases c12 with c12 | c12 | c12 | c12 | c12 | c12 | c12
        · rw [c12]
          refine x_B k95_38 rfl (fun _ => rfl) (fun _ => rfl) (fun _ _ => rfl) ?_
          show xe none 95 76 [(0, .ref 0), (1, vi a), (2, vi b), (3, vi 0)] [] s0 0 0 _
          refine x_A k95_76 (fun _ => rfl) ?_
          refine x_getR k95_77 (f := 0) rfl (q := 0) (n := 12) (kd := 3) ⟨by decide, rfl⟩ (q2 := 1) (by decide) rfl ?_
          refine x_A k95_80 (fun _ => rfl) ?_
          refine x_A k95_81 (fun _ => rfl) ?_
          refine x_callV k95_82 (y := 64) (n := 2) (w0 := 0) (w1 := 2) (as := [vi a, vi b]) (rest := []) (by decide +kernel) (q := 1) (nq := 5) (kq := 4) ⟨by decide, rfl⟩ rfl rfl rfl rfl (xe_mono (E_X7_isThere_1 s0 hG0 a (by first | exact x_rb b_a rfl rfl | exact ⟨by omega, by omega⟩) b (by first | exact x_rb b_b rfl rfl | exact ⟨by omega, by omega⟩)) ?_)
          rintro s14 v ⟨h_s14, z13, rfl, hz_z13⟩
          rw [h_s14]
          rcases hz_z13 with ⟨c_z13, e_z13, m_z13⟩ | ⟨e_z13, m_z13⟩
          · rw [e_z13]
            show xe none 95 85 [(0, .ref 0), (1, vi a), (2, vi b), (3, vi 0)] [vi 1] s0 0 0 _
            refine x_callS k95_85 (y := 126) (n := 1) (w0 := 0) (w1 := 1) (as := [vi 1]) (rest := []) (by decide +kernel) rfl rfl rfl rfl (xe_mono (C_X10_oneIf s0 hG0 1 ⟨by decide, by decide⟩) ?_)
            rintro s16 v ⟨-, t_s16, z15, rfl, g_z15⟩
            rw [t_s16.nil]
            show xe none 95 88 [(0, .ref 0), (1, vi a), (2, vi b), (3, vi 0)] [vi z15] s0 0 0 _
            exact x_iret k95_88 rfl ⟨hG0, f0, z15, rfl, (by first | exact x_rbe e_z15 g_z15 rfl rfl | exact x_rb g_z15 rfl rfl | exact ⟨by omega, by omega⟩), i0_VCj, i0_VCl⟩
          · rw [e_z13]
            show xe none 95 85 [(0, .ref 0), (1, vi a), (2, vi b), (3, vi 0)] [vi 0] s0 0 0 _
            refine x_callS k95_85 (y := 126) (n := 1) (w0 := 0) (w1 := 1) (as := [vi 0]) (rest := []) (by decide +kernel) rfl rfl rfl rfl (xe_mono (C_X10_oneIf s0 hG0 0 ⟨by decide, by decide⟩) ?_)
            rintro s18 v ⟨-, t_s18, z17, rfl, g_z17⟩
            rw [t_s18.nil]
            show xe none 95 88 [(0, .ref 0), (1, vi a), (2, vi b), (3, vi 0)] [vi z17] s0 0 0 _
            exact x_iret k95_88 rfl ⟨hG0, f0, z17, rfl, (by first | exact x_rbe e_z17 g_z17 rfl rfl | exact x_rb g_z17 rfl rfl | exact ⟨by omega, by omega⟩), i0_VCj, i0_VCl⟩
        · rw [c12]
          refine x_B k95_38 rfl (fun _ => rfl) (fun _ => rfl) (fun _ _ => rfl) ?_
          show xe none 95 89 [(0, .ref 0), (1, vi a), (2, vi b), (3, vi 1)] [] s0 0 0 _
          refine x_A k95_89 (fun _ => rfl) ?_
          refine x_getR k95_90 (f := 0) rfl (q := 0) (n := 12) (kd := 3) ⟨by decide, rfl⟩ (q2 := 1) (by decide) rfl ?_
          refine x_A k95_93 (fun _ => rfl) ?_
          refine x_A k95_94 (fun _ => rfl) ?_
          refine x_callV k95_95 (y := 62) (n := 2) (w0 := 0) (w1 := 2) (as := [vi a, vi b]) (rest := []) (by decide +kernel) (q := 1) (nq := 5) (kq := 4) ⟨by decide, rfl⟩ rfl rfl rfl rfl (xe_mono (E_X7_parentIn_1 s0 hG0 a (by first | exact x_rb b_a rfl rfl | exact ⟨by omega, by omega⟩) b (by first | exact x_rb b_b rfl rfl | exact ⟨by omega, by omega⟩)) ?_)
          rintro s20 v ⟨-, t_s20, z19, rfl, g_z19, xp_z19⟩
          rw [t_s20.nil]
          try rw [t_s20.nil] at xp_z19
          show xe none 95 98 [(0, .ref 0), (1, vi a), (2, vi b), (3, vi 1)] [vi z19] s0 0 0 _
          exact x_iret k95_98 rfl ⟨hG0, f0, z19, rfl, (by first | exact x_rbe e_z19 g_z19 rfl rfl | exact x_rb g_z19 rfl rfl | exact ⟨by omega, by omega⟩), i0_VCj, i0_VCl⟩
        · rw [c12]
          refine x_B k95_38 rfl (fun _ => rfl) (fun _ => rfl) (fun _ _ => rfl) ?_
          show xe none 95 99 [(0, .ref 0), (1, vi a), (2, vi b), (3, vi 2)] [] s0 0 0 _
          refine x_A k95_99 (fun _ => rfl) ?_
          refine x_getR k95_100 (f := 0) rfl (q := 0) (n := 12) (kd := 3) ⟨by decide, rfl⟩ (q2 := 1) (by decide) rfl ?_
          refine x_A k95_103 (fun _ => rfl) ?_
          refine x_A k95_104 (fun _ => rfl) ?_
          refine x_callV k95_105 (y := 67) (n := 2) (w0 := 0) (w1 := 2) (as := [vi a, vi b]) (rest := []) (by decide +kernel) (q := 1) (nq := 5) (kq := 4) ⟨by decide, rfl⟩ rfl rfl rfl rfl (xe_mono (E_X7_countBelow_1 s0 hG0 a (by first | exact x_rb b_a rfl rfl | exact ⟨by omega, by omega⟩) b (by first | exact x_rb b_b rfl rfl | exact ⟨by omega, by omega⟩)) ?_)
          rintro s22 v ⟨-, t_s22, z21, rfl, g_z21, xp_z21⟩
          rw [t_s22.nil]
          try rw [t_s22.nil] at xp_z21
          show xe none 95 108 [(0, .ref 0), (1, vi a), (2, vi b), (3, vi 2)] [vi z21] s0 0 0 _
          exact x_iret k95_108 rfl ⟨hG0, f0, z21, rfl, (by first | exact x_rbe e_z21 g_z21 rfl rfl | exact x_rb g_z21 rfl rfl | exact ⟨by omega, by omega⟩), i0_VCj, i0_VCl⟩
        · rw [c12]
          refine x_B k95_38 rfl (fun _ => rfl) (fun _ => rfl) (fun _ _ => rfl) ?_
          show xe none 95 109 [(0, .ref 0), (1, vi a), (2, vi b), (3, vi 3)] [] s0 0 0 _
          refine x_A k95_109 (fun _ => rfl) ?_
          refine x_getR k95_110 (f := 0) rfl (q := 0) (n := 12) (kd := 3) ⟨by decide, rfl⟩ (q2 := 1) (by decide) rfl ?_
          refine x_getR k95_113 (f := 2) rfl (q := 1) (n := 5) (kd := 4) ⟨by decide, rfl⟩ (q2 := 4) (by decide) rfl ?_
          refine x_A k95_116 (fun _ => rfl) ?_
          refine x_iald k95_117 (q := 4) (n := 40) ⟨by decide, rfl⟩ (by decide) (by first | exact x_rbl b_a rfl rfl | exact ⟨by omega, by omega⟩) ?_
          refine x_top (fun z23 e_z23 => ?_)
          have g_z23 : (-1) ≤ s0 4 a.toNat ∧ s0 4 a.toNat ≤ 39 := hG0 4 a.toNat
          exact x_iret k95_118 rfl ⟨hG0, f0, z23, rfl, (by first | exact x_rbe e_z23 g_z23 rfl rfl | exact x_rb g_z23 rfl rfl | exact ⟨by omega, by omega⟩), i0_VCj, i0_VCl⟩
        · rw [c12]
          refine x_B k95_38 rfl (fun _ => rfl) (fun _ => rfl) (fun _ _ => rfl) ?_
          show xe none 95 119 [(0, .ref 0), (1, vi a), (2, vi b), (3, vi 4)] [] s0 0 0 _
          refine x_A k95_119 (fun _ => rfl) ?_
          refine x_getR k95_120 (f := 0) rfl (q := 0) (n := 12) (kd := 3) ⟨by decide, rfl⟩ (q2 := 1) (by decide) rfl ?_
          refine x_getR k95_123 (f := 0) rfl (q := 1) (n := 5) (kd := 4) ⟨by decide, rfl⟩ (q2 := 2) (by decide) rfl ?_
          refine x_A k95_126 (fun _ => rfl) ?_
          refine x_iald k95_127 (q := 2) (n := 40) ⟨by decide, rfl⟩ (by decide) (by first | exact x_rbl b_a rfl rfl | exact ⟨by omega, by omega⟩) ?_
          refine x_top (fun z24 e_z24 => ?_)
          have g_z24 : (0 : Int) ≤ s0 2 a.toNat ∧ s0 2 a.toNat ≤ 9 := hG0 2 a.toNat
          exact x_iret k95_128 rfl ⟨hG0, f0, z24, rfl, (by first | exact x_rbe e_z24 g_z24 rfl rfl | exact x_rb g_z24 rfl rfl | exact ⟨by omega, by omega⟩), i0_VCj, i0_VCl⟩
        · rw [c12]
          refine x_B k95_38 rfl (fun _ => rfl) (fun _ => rfl) (fun _ _ => rfl) ?_
          show xe none 95 129 [(0, .ref 0), (1, vi a), (2, vi b), (3, vi 5)] [] s0 0 0 _
          refine x_A k95_129 (fun _ => rfl) ?_
          refine x_getR k95_130 (f := 0) rfl (q := 0) (n := 12) (kd := 3) ⟨by decide, rfl⟩ (q2 := 1) (by decide) rfl ?_
          refine x_getR k95_133 (f := 1) rfl (q := 1) (n := 5) (kd := 4) ⟨by decide, rfl⟩ (q2 := 3) (by decide) rfl ?_
          refine x_A k95_136 (fun _ => rfl) ?_
          refine x_iald k95_137 (q := 3) (n := 40) ⟨by decide, rfl⟩ (by decide) (by first | exact x_rbl b_a rfl rfl | exact ⟨by omega, by omega⟩) ?_
          refine x_top (fun z25 e_z25 => ?_)
          have g_z25 : (-1) ≤ s0 3 a.toNat ∧ s0 3 a.toNat ≤ 9 := hG0 3 a.toNat
          exact x_iret k95_138 rfl ⟨hG0, f0, z25, rfl, (by first | exact x_rbe e_z25 g_z25 rfl rfl | exact x_rb g_z25 rfl rfl | exact ⟨by omega, by omega⟩), i0_VCj, i0_VCl⟩
        · refine x_tabD k95_38 ⟨by omega, by omega⟩ c12 (t0 := 139) rfl ?_
          refine x_A k95_139 (fun _ => rfl) ?_
          refine x_getR k95_140 (f := 9) rfl (q := 0) (n := 12) (kd := 3) ⟨by decide, rfl⟩ (q2 := 243) (by decide) rfl ?_
          refine x_A k95_143 (fun _ => rfl) ?_
          refine x_callV k95_144 (y := 76) (n := 1) (w0 := 0) (w1 := 1) (as := [vi b]) (rest := []) (by decide +kernel) (q := 243) (nq := 13) (kq := 13) ⟨by decide, rfl⟩ rfl rfl rfl rfl (xe_mono (E_X8_lookIn_243 s0 hG0 (hJ0.fl f0 (by decide)) b (by first | exact x_rb b_b rfl rfl | exact ⟨by omega, by omega⟩) (pR.fl f0 (by decide)) i0_VCj i0_VCl) ?_)
          rintro s27 v ⟨hG_s27, t_s27, rfl, xp_z26⟩
          have f_s27 : FL [3329, 3334, 3335, 3336, 3392, 3456, 3520, 3584, 3276, 3648, 3712, 3776, 3840, 3904, 3968, 3277, 4032] s0 s27 := f0.tr t_s27 (by decide)
          have q28 : s27 1 4 = z1 := (t_s27 1 4 (show 69 ∉ [3329, 3334, 3335, 3336, 3392, 3456, 3520, 3584, 3276, 3648, 3712, 3776, 3840, 3904, 3968, 3277, 4032] from by decide)).trans e_z1.symm
          have q29 : s27 0 10 = z5 := (t_s27 0 10 (show 11 ∉ [3329, 3334, 3335, 3336, 3392, 3456, 3520, 3584, 3276, 3648, 3712, 3776, 3840, 3904, 3968, 3277, 4032] from by decide)).trans e_z5.symm
          obtain ⟨z30, e_z30⟩ : ∃ z, z = s27 243 11 := ⟨_, rfl⟩
          have g_z30 : (0 : Int) ≤ s27 243 11 ∧ s27 243 11 ≤ 1 := hG_s27 243 11
          obtain ⟨z31, e_z31⟩ : ∃ z, z = s27 243 12 := ⟨_, rfl⟩
          have g_z31 : (-1) ≤ s27 243 12 ∧ s27 243 12 ≤ 9 := hG_s27 243 12
          show xe none 95 147 [(0, .ref 0), (1, vi a), (2, vi b), (3, vi d)] [] s27 0 0 _
          have VCj_k : VCj s27 := VCj.judge hG0 t_s27 (by decide) xp_z26.1
          have VCl_k : VCl s27 := VCl.look hG0 t_s27 (by decide) xp_z26.2.1 xp_z26.2.2.1 xp_z26.2.2.2
          refine x_A k95_147 (fun _ => rfl) ?_
          refine x_getR k95_148 (f := 9) rfl (q := 0) (n := 12) (kd := 3) ⟨by decide, rfl⟩ (q2 := 243) (by decide) rfl ?_
          refine x_A k95_151 (fun _ => rfl) ?_
          refine x_callV k95_152 (y := 79) (n := 1) (w0 := 0) (w1 := 1) (as := [vi a]) (rest := []) (by decide +kernel) (q := 243) (nq := 13) (kq := 13) ⟨by decide, rfl⟩ rfl rfl rfl rfl (xe_mono (C_X8_showing_243 s27 hG_s27 a (by first | exact x_rb b_a rfl rfl | exact ⟨by omega, by omega⟩)) ?_)
          rintro s33 v ⟨-, t_s33, z32, rfl, b_z32⟩
          rw [t_s33.nil]
          show xe none 95 155 [(0, .ref 0), (1, vi a), (2, vi b), (3, vi d)] [vj z32] s27 0 0 _
          refine x_callS k95_155 (y := 219) (n := 1) (w0 := 0) (w1 := 2) (as := [vj z32]) (rest := []) (by decide +kernel) rfl rfl rfl rfl (xe_mono (E_J13_bitCount_95d88 s27 hG_s27 z32 b_z32) ?_)
          rintro s35 v ⟨-, t_s35, z34, rfl, g_z34, xp_z34⟩
          rw [t_s35.nil]
          try rw [t_s35.nil] at xp_z34
          show xe none 95 158 [(0, .ref 0), (1, vi a), (2, vi b), (3, vi d)] [vi z34] s27 0 0 _
          exact x_iret k95_158 rfl ⟨hG_s27, f_s27, z34, rfl, (by first | exact x_rbe e_z34 g_z34 rfl rfl | exact x_rb g_z34 rfl rfl | exact ⟨by omega, by omega⟩), VCj_k, VCl_k⟩
      · rw [e_z9]
        show xe none 95 30 [(0, .ref 0), (1, vi a), (2, vi b), (3, vi d)] [vi 0] s0 0 0 _
        refine x_if_ne k95_30 (t := 37) rfl ⟨by decide, by decide⟩ (fun c36 => by exfalso; omega) (fun c36 => ?_)
        refine x_sipush k95_33 (by decide +kernel) ?_
        exact x_iret k95_36 rfl ⟨hG0, f0, (-1002), rfl, ⟨by decide, by decide⟩, i0_VCj, i0_VCl⟩
    · rw [e_z6]
      show xe none 95 20 [(0, .ref 0), (1, vi a), (2, vi b), (3, vi d)] [vi 0] s0 0 0 _
      refine x_if_eq k95_20 (t := 33) rfl ⟨by decide, by decide⟩ (fun c37 => ?_) (fun c37 => by exfalso; omega)
      refine x_sipush k95_33 (by decide +kernel) ?_
      exact x_iret k95_36 rfl ⟨hG0, f0, (-1002), rfl, ⟨by decide, by decide⟩, i0_VCj, i0_VCl⟩
  · rw [e_z2]
    show xe none 95 8 [(0, .ref 0), (1, vi a), (2, vi b), (3, vi d)] [vi 0] s0 0 0 _
    refine x_if_ne k95_8 (t := 15) rfl ⟨by decide, by decide⟩ (fun c38 => by exfalso; omega) (fun c38 => ?_)
    refine x_sipush k95_11 (by decide +kernel) ?_
    exact x_iret k95_14 rfl ⟨hG0, f0, (-1001), rfl, ⟨by decide, by decide⟩, i0_VCj, i0_VCl⟩
set_option maxHeartbeats 8000000 in
theorem V_X10_told_0 (s0 : xS) (hG0 : GI s0) (hJ0 : J s0) (a : Int) (b_a : (-2147483648) ≤ a ∧ a ≤ 2147483647) (b : Int) (b_b : (-2147483648) ≤ b ∧ b ≤ 2147483647) (pR : R1 s0) (i0_VCj : VCj s0) (i0_VCl : VCl s0) : xe none 100 0 (lv_args 0 [.ref 0, vi a, vi b]) [] s0 0 0 (fun s' v => GI s' ∧ FL [3329, 3334, 3335, 3336, 3392, 3456, 3520, 3584, 3276, 3648, 3712, 3776, 3840, 3904, 3968, 3277, 4032] s0 s' ∧ ∃ z, v = some (vi z) ∧ ((-1004) ≤ z ∧ z ≤ 127) ∧ VCj s' ∧ VCl s') := by
  have f0 : FL [3329, 3334, 3335, 3336, 3392, 3456, 3520, 3584, 3276, 3648, 3712, 3776, 3840, 3904, 3968, 3277, 4032] s0 s0 := FL.rf
  show xe none 100 0 [(0, .ref 0), (1, vi a), (2, vi b)] [] s0 0 0 _
  refine x_A k100_0 (fun _ => rfl) ?_
  refine x_getR k100_1 (f := 2) rfl (q := 0) (n := 12) (kd := 3) ⟨by decide, rfl⟩ (q2 := 50) (by decide) rfl ?_
  refine x_A k100_4 (fun _ => rfl) ?_
  obtain ⟨z1, e_z1⟩ : ∃ z, z = s0 50 6 := ⟨_, rfl⟩
  have g_z1 : (0 : Int) ≤ s0 50 6 ∧ s0 50 6 ≤ 120 := hG0 50 6
  refine x_callV k100_5 (y := 24) (n := 1) (w0 := 0) (w1 := 1) (as := [vi a]) (rest := []) (by decide +kernel) (q := 50) (nq := 7) (kq := 6) ⟨by decide, rfl⟩ rfl rfl rfl rfl (xe_mono (C_X2_has_50 s0 hG0 a (by first | exact x_rb b_a rfl rfl | exact ⟨by omega, by omega⟩)) ?_)
  rintro s3 v ⟨h_s3, z2, rfl, hz_z2⟩
  rw [h_s3]
  rcases hz_z2 with ⟨c_z2, e_z2⟩ | ⟨c_z2, e_z2⟩
  · rw [e_z2]
    show xe none 100 8 [(0, .ref 0), (1, vi a), (2, vi b)] [vi 1] s0 0 0 _
    refine x_if_ne k100_8 (t := 15) rfl ⟨by decide, by decide⟩ (fun c4 => ?_) (fun c4 => by exfalso; omega)
    refine x_A k100_15 (fun _ => rfl) ?_
    refine x_A k100_16 (fun _ => rfl) ?_
    refine x_bipush k100_17 (by decide +kernel) ?_
    refine x_callS k100_19 (y := 121) (n := 3) (w0 := 0) (w1 := 3) (as := [vi b, vi 0, vi 6]) (rest := []) (by decide +kernel) rfl rfl rfl rfl (xe_mono (C_X10_isWithin s0 hG0 b (by first | exact x_rb b_b rfl rfl | exact ⟨by omega, by omega⟩) 0 ⟨by decide, by decide⟩ 6 ⟨by decide, by decide⟩) ?_)
    rintro s6 v ⟨h_s6, z5, rfl, hz_z5⟩
    rw [h_s6]
    rcases hz_z5 with ⟨c_z5, e_z5⟩ | ⟨c_z5, e_z5⟩
    · rw [e_z5]
      show xe none 100 22 [(0, .ref 0), (1, vi a), (2, vi b)] [vi 1] s0 0 0 _
      refine x_if_ne k100_22 (t := 29) rfl ⟨by decide, by decide⟩ (fun c7 => ?_) (fun c7 => by exfalso; omega)
      refine x_A k100_29 (fun _ => rfl) ?_
      have c8 : b = 0 ∨ b = 1 ∨ b = 2 ∨ b = 3 ∨ b = 4 ∨ b = 5 ∨ ¬ (0 ≤ b ∧ b ≤ 5) := by omega
      rcases c8 with c8 | c8 | c8 | c8 | c8 | c8 | c8
      · rw [c8]
        refine x_B k100_30 rfl (fun _ => rfl) (fun _ => rfl) (fun _ _ => rfl) ?_
        show xe none 100 68 [(0, .ref 0), (1, vi a), (2, vi 0)] [] s0 0 0 _
        refine x_A k100_68 (fun _ => rfl) ?_
        refine x_getR k100_69 (f := 2) rfl (q := 0) (n := 12) (kd := 3) ⟨by decide, rfl⟩ (q2 := 50) (by decide) rfl ?_
        refine x_getR k100_72 (f := 0) rfl (q := 50) (n := 7) (kd := 6) ⟨by decide, rfl⟩ (q2 := 51) (by decide) rfl ?_
        refine x_A k100_75 (fun _ => rfl) ?_
        refine x_iald k100_76 (q := 51) (n := 120) ⟨by decide, rfl⟩ (by decide) (by first | exact x_rbl b_a rfl rfl | exact ⟨by omega, by omega⟩) ?_
        refine x_top (fun z9 e_z9 => ?_)
        have g_z9 : (0 : Int) ≤ s0 51 a.toNat ∧ s0 51 a.toNat ≤ 39 := hG0 51 a.toNat
        exact x_iret k100_77 rfl ⟨hG0, f0, z9, rfl, (by first | exact x_rbe e_z9 g_z9 rfl rfl | exact x_rb g_z9 rfl rfl | exact ⟨by omega, by omega⟩), i0_VCj, i0_VCl⟩
      · rw [c8]
        refine x_B k100_30 rfl (fun _ => rfl) (fun _ => rfl) (fun _ _ => rfl) ?_
        show xe none 100 78 [(0, .ref 0), (1, vi a), (2, vi 1)] [] s0 0 0 _
        refine x_A k100_78 (fun _ => rfl) ?_
        refine x_getR k100_79 (f := 2) rfl (q := 0) (n := 12) (kd := 3) ⟨by decide, rfl⟩ (q2 := 50) (by decide) rfl ?_
        refine x_getR k100_82 (f := 1) rfl (q := 50) (n := 7) (kd := 6) ⟨by decide, rfl⟩ (q2 := 52) (by decide) rfl ?_
        refine x_A k100_85 (fun _ => rfl) ?_
        refine x_iald k100_86 (q := 52) (n := 120) ⟨by decide, rfl⟩ (by decide) (by first | exact x_rbl b_a rfl rfl | exact ⟨by omega, by omega⟩) ?_
        refine x_top (fun z10 e_z10 => ?_)
        have g_z10 : (0 : Int) ≤ s0 52 a.toNat ∧ s0 52 a.toNat ≤ 39 := hG0 52 a.toNat
        exact x_iret k100_87 rfl ⟨hG0, f0, z10, rfl, (by first | exact x_rbe e_z10 g_z10 rfl rfl | exact x_rb g_z10 rfl rfl | exact ⟨by omega, by omega⟩), i0_VCj, i0_VCl⟩
      · rw [c8]
        refine x_B k100_30 rfl (fun _ => rfl) (fun _ => rfl) (fun _ _ => rfl) ?_
        show xe none 100 88 [(0, .ref 0), (1, vi a), (2, vi 2)] [] s0 0 0 _
        refine x_A k100_88 (fun _ => rfl) ?_
        refine x_getR k100_89 (f := 2) rfl (q := 0) (n := 12) (kd := 3) ⟨by decide, rfl⟩ (q2 := 50) (by decide) rfl ?_
        refine x_getR k100_92 (f := 2) rfl (q := 50) (n := 7) (kd := 6) ⟨by decide, rfl⟩ (q2 := 53) (by decide) rfl ?_
        refine x_A k100_95 (fun _ => rfl) ?_
        refine x_iald k100_96 (q := 53) (n := 120) ⟨by decide, rfl⟩ (by decide) (by first | exact x_rbl b_a rfl rfl | exact ⟨by omega, by omega⟩) ?_
        refine x_top (fun z11 e_z11 => ?_)
        have g_z11 : (0 : Int) ≤ s0 53 a.toNat ∧ s0 53 a.toNat ≤ 7 := hG0 53 a.toNat
        exact x_iret k100_97 rfl ⟨hG0, f0, z11, rfl, (by first | exact x_rbe e_z11 g_z11 rfl rfl | exact x_rb g_z11 rfl rfl | exact ⟨by omega, by omega⟩), i0_VCj, i0_VCl⟩
      · rw [c8]
        refine x_B k100_30 rfl (fun _ => rfl) (fun _ => rfl) (fun _ _ => rfl) ?_
        show xe none 100 98 [(0, .ref 0), (1, vi a), (2, vi 3)] [] s0 0 0 _
        refine x_A k100_98 (fun _ => rfl) ?_
        refine x_getR k100_99 (f := 2) rfl (q := 0) (n := 12) (kd := 3) ⟨by decide, rfl⟩ (q2 := 50) (by decide) rfl ?_
        refine x_getR k100_102 (f := 3) rfl (q := 50) (n := 7) (kd := 6) ⟨by decide, rfl⟩ (q2 := 54) (by decide) rfl ?_
        refine x_A k100_105 (fun _ => rfl) ?_
        refine x_iald k100_106 (q := 54) (n := 120) ⟨by decide, rfl⟩ (by decide) (by first | exact x_rbl b_a rfl rfl | exact ⟨by omega, by omega⟩) ?_
        refine x_top (fun z12 e_z12 => ?_)
        have g_z12 : (0 : Int) ≤ s0 54 a.toNat ∧ s0 54 a.toNat ≤ 63 := hG0 54 a.toNat
        exact x_iret k100_107 rfl ⟨hG0, f0, z12, rfl, (by first | exact x_rbe e_z12 g_z12 rfl rfl | exact x_rb g_z12 rfl rfl | exact ⟨by omega, by omega⟩), i0_VCj, i0_VCl⟩
      · rw [c8]
        refine x_B k100_30 rfl (fun _ => rfl) (fun _ => rfl) (fun _ _ => rfl) ?_
        show xe none 100 108 [(0, .ref 0), (1, vi a), (2, vi 4)] [] s0 0 0 _
        refine x_A k100_108 (fun _ => rfl) ?_
        refine x_getR k100_109 (f := 2) rfl (q := 0) (n := 12) (kd := 3) ⟨by decide, rfl⟩ (q2 := 50) (by decide) rfl ?_
        refine x_getR k100_112 (f := 4) rfl (q := 50) (n := 7) (kd := 6) ⟨by decide, rfl⟩ (q2 := 55) (by decide) rfl ?_
        refine x_A k100_115 (fun _ => rfl) ?_
        refine x_iald k100_116 (q := 55) (n := 120) ⟨by decide, rfl⟩ (by decide) (by first | exact x_rbl b_a rfl rfl | exact ⟨by omega, by omega⟩) ?_
        refine x_top (fun z13 e_z13 => ?_)
        have g_z13 : (0 : Int) ≤ s0 55 a.toNat ∧ s0 55 a.toNat ≤ 9 := hG0 55 a.toNat
        exact x_iret k100_117 rfl ⟨hG0, f0, z13, rfl, (by first | exact x_rbe e_z13 g_z13 rfl rfl | exact x_rb g_z13 rfl rfl | exact ⟨by omega, by omega⟩), i0_VCj, i0_VCl⟩
      · rw [c8]
        refine x_B k100_30 rfl (fun _ => rfl) (fun _ => rfl) (fun _ _ => rfl) ?_
        show xe none 100 118 [(0, .ref 0), (1, vi a), (2, vi 5)] [] s0 0 0 _
        refine x_A k100_118 (fun _ => rfl) ?_
        refine x_getR k100_119 (f := 9) rfl (q := 0) (n := 12) (kd := 3) ⟨by decide, rfl⟩ (q2 := 243) (by decide) rfl ?_
        refine x_callV k100_122 (y := 74) (n := 0) (w0 := 0) (w1 := 0) (as := []) (rest := []) (by decide +kernel) (q := 243) (nq := 13) (kq := 13) ⟨by decide, rfl⟩ rfl rfl rfl rfl (xe_mono (E_X8_judge_243 s0 hG0 (hJ0.fl f0 (by decide)) (pR.fl f0 (by decide)) i0_VCj) ?_)
        rintro s15 v ⟨hG_s15, t_s15, rfl, xp_z14⟩
        have f_s15 : FL [3329, 3334, 3335, 3336, 3392, 3456, 3520, 3584, 3276, 3648, 3712, 3776, 3840, 3904, 3968, 3277, 4032] s0 s15 := f0.tr t_s15 (by decide)
        have q16 : s15 50 6 = z1 := (t_s15 50 6 (show 711 ∉ [3329, 3334, 3335, 3336, 3392, 3456, 3520, 3584, 3276, 3648, 3712, 3776, 3840] from by decide)).trans e_z1.symm
        obtain ⟨z17, e_z17⟩ : ∃ z, z = s15 243 11 := ⟨_, rfl⟩
        have g_z17 : (0 : Int) ≤ s15 243 11 ∧ s15 243 11 ≤ 1 := hG_s15 243 11
        show xe none 100 125 [(0, .ref 0), (1, vi a), (2, vi 5)] [] s15 0 0 _
        have VCj_d : VCj s15 := VCj.judge hG0 t_s15 (by decide) xp_z14.1
        have VCl_d : VCl s15 := VCl.judge i0_VCl hG0 t_s15 (by decide) xp_z14.2
        refine x_A k100_125 (fun _ => rfl) ?_
        refine x_getR k100_126 (f := 9) rfl (q := 0) (n := 12) (kd := 3) ⟨by decide, rfl⟩ (q2 := 243) (by decide) rfl ?_
        refine x_getR k100_129 (f := 7) rfl (q := 243) (n := 13) (kd := 13) ⟨by decide, rfl⟩ (q2 := 252) (by decide) rfl ?_
        refine x_A k100_132 (fun _ => rfl) ?_
        refine x_iald k100_133 (q := 252) (n := 120) ⟨by decide, rfl⟩ (by decide) (by first | exact x_rbl b_a rfl rfl | exact ⟨by omega, by omega⟩) ?_
        refine x_top (fun z18 e_z18 => ?_)
        have g_z18 : (0 : Int) ≤ s15 252 a.toNat ∧ s15 252 a.toNat ≤ 4 := hG_s15 252 a.toNat
        exact x_iret k100_134 rfl ⟨hG_s15, f_s15, z18, rfl, (by first | exact x_rbe e_z18 g_z18 rfl rfl | exact x_rb g_z18 rfl rfl | exact ⟨by omega, by omega⟩), VCj_d, VCl_d⟩
      · refine x_tabD k100_30 ⟨by omega, by omega⟩ c8 (t0 := 135) rfl ?_
        refine x_A k100_135 (fun _ => rfl) ?_
        refine x_getR k100_136 (f := 2) rfl (q := 0) (n := 12) (kd := 3) ⟨by decide, rfl⟩ (q2 := 50) (by decide) rfl ?_
        refine x_A k100_139 (fun _ => rfl) ?_
        refine x_A k100_140 (fun _ => rfl) ?_
        refine x_getI k100_141 (f := 10) rfl (q := 0) (n := 12) (kd := 3) ⟨by decide, rfl⟩ (by decide) rfl ?_
        refine x_top (fun z19 e_z19 => ?_)
        have g_z19 : (0 : Int) ≤ s0 0 10 ∧ s0 0 10 ≤ 9 := hG0 0 10
        refine x_callV k100_144 (y := 26) (n := 2) (w0 := 0) (w1 := 2) (as := [vi a, vi z19]) (rest := []) (by decide +kernel) (q := 50) (nq := 7) (kq := 6) ⟨by decide, rfl⟩ rfl rfl rfl rfl (xe_mono (E_X2_doubters_50 s0 hG0 a (by first | exact x_rb b_a rfl rfl | exact ⟨by omega, by omega⟩) z19 (by first | exact x_rbe e_z19 g_z19 rfl rfl | exact x_rb g_z19 rfl rfl | exact ⟨by omega, by omega⟩) ⟨by omega, by omega⟩) ?_)
        rintro s21 v ⟨-, t_s21, z20, rfl, g_z20, xp_z20⟩
        rw [t_s21.nil]
        try rw [t_s21.nil] at xp_z20
        show xe none 100 147 [(0, .ref 0), (1, vi a), (2, vi b)] [vi z20] s0 0 0 _
        exact x_iret k100_147 rfl ⟨hG0, f0, z20, rfl, (by first | exact x_rbe e_z20 g_z20 rfl rfl | exact x_rb g_z20 rfl rfl | exact ⟨by omega, by omega⟩), i0_VCj, i0_VCl⟩
    · rw [e_z5]
      show xe none 100 22 [(0, .ref 0), (1, vi a), (2, vi b)] [vi 0] s0 0 0 _
      refine x_if_ne k100_22 (t := 29) rfl ⟨by decide, by decide⟩ (fun c22 => by exfalso; omega) (fun c22 => ?_)
      refine x_sipush k100_25 (by decide +kernel) ?_
      exact x_iret k100_28 rfl ⟨hG0, f0, (-1002), rfl, ⟨by decide, by decide⟩, i0_VCj, i0_VCl⟩
  · rw [e_z2]
    show xe none 100 8 [(0, .ref 0), (1, vi a), (2, vi b)] [vi 0] s0 0 0 _
    refine x_if_ne k100_8 (t := 15) rfl ⟨by decide, by decide⟩ (fun c23 => by exfalso; omega) (fun c23 => ?_)
    refine x_sipush k100_11 (by decide +kernel) ?_
    exact x_iret k100_14 rfl ⟨hG0, f0, (-1001), rfl, ⟨by decide, by decide⟩, i0_VCj, i0_VCl⟩
set_option maxHeartbeats 8000000 in
theorem V_X10_means_0 (s0 : xS) (hG0 : GI s0) (hJ0 : J s0) (a : Int) (b_a : (-2147483648) ≤ a ∧ a ≤ 2147483647) (b : Int) (b_b : (-2147483648) ≤ b ∧ b ≤ 2147483647) (d : Int) (b_d : (-2147483648) ≤ d ∧ d ≤ 2147483647) (pR : R1 s0) (i0_VCj : VCj s0) (i0_VCl : VCl s0) : xe none 101 0 (lv_args 0 [.ref 0, vi a, vi b, vi d]) [] s0 0 0 (fun s' v => GI s' ∧ FL [3329, 3334, 3335, 3336, 3392, 3456, 3520, 3584, 3276, 3648, 3712, 3776, 3840, 3904, 3968, 3277, 4032, 1921, 1926, 1927, 1928, 1984, 2048, 2112, 2176] s0 s' ∧ ∃ z, v = some (vi z) ∧ ((-1004) ≤ z ∧ z ≤ 127) ∧ VCj s' ∧ VCl s') := by
  have f0 : FL [3329, 3334, 3335, 3336, 3392, 3456, 3520, 3584, 3276, 3648, 3712, 3776, 3840, 3904, 3968, 3277, 4032, 1921, 1926, 1927, 1928, 1984, 2048, 2112, 2176] s0 s0 := FL.rf
  show xe none 101 0 [(0, .ref 0), (1, vi a), (2, vi b), (3, vi d)] [] s0 0 0 _
  refine x_A k101_0 (fun _ => rfl) ?_
  refine x_getR k101_1 (f := 2) rfl (q := 0) (n := 12) (kd := 3) ⟨by decide, rfl⟩ (q2 := 50) (by decide) rfl ?_
  refine x_A k101_4 (fun _ => rfl) ?_
  obtain ⟨z1, e_z1⟩ : ∃ z, z = s0 50 6 := ⟨_, rfl⟩
  have g_z1 : (0 : Int) ≤ s0 50 6 ∧ s0 50 6 ≤ 120 := hG0 50 6
  refine x_callV k101_5 (y := 24) (n := 1) (w0 := 0) (w1 := 1) (as := [vi a]) (rest := []) (by decide +kernel) (q := 50) (nq := 7) (kq := 6) ⟨by decide, rfl⟩ rfl rfl rfl rfl (xe_mono (C_X2_has_50 s0 hG0 a (by first | exact x_rb b_a rfl rfl | exact ⟨by omega, by omega⟩)) ?_)
  rintro s3 v ⟨h_s3, z2, rfl, hz_z2⟩
  rw [h_s3]
  rcases hz_z2 with ⟨c_z2, e_z2⟩ | ⟨c_z2, e_z2⟩
  · rw [e_z2]
    show xe none 101 8 [(0, .ref 0), (1, vi a), (2, vi b), (3, vi d)] [vi 1] s0 0 0 _
    refine x_if_ne k101_8 (t := 15) rfl ⟨by decide, by decide⟩ (fun c4 => ?_) (fun c4 => by exfalso; omega)
    refine x_A k101_15 (fun _ => rfl) ?_
    refine x_A k101_16 (fun _ => rfl) ?_
    obtain ⟨z5, e_z5⟩ : ∃ z, z = s0 0 10 := ⟨_, rfl⟩
    have g_z5 : (0 : Int) ≤ s0 0 10 ∧ s0 0 10 ≤ 9 := hG0 0 10
    refine x_callV k101_17 (y := 125) (n := 1) (w0 := 0) (w1 := 1) (as := [vi b]) (rest := []) (by decide +kernel) (q := 0) (nq := 12) (kq := 3) ⟨by decide, rfl⟩ rfl rfl rfl rfl (xe_mono (C_X10_isKnownEdition_0 s0 hG0 b (by first | exact x_rb b_b rfl rfl | exact ⟨by omega, by omega⟩)) ?_)
    rintro s7 v ⟨h_s7, z6, rfl, hz_z6⟩
    rw [h_s7]
    rcases hz_z6 with ⟨c_z6, e_z6⟩ | ⟨c_z6, e_z6⟩
    · rw [e_z6]
      show xe none 101 20 [(0, .ref 0), (1, vi a), (2, vi b), (3, vi d)] [vi 1] s0 0 0 _
      refine x_if_eq k101_20 (t := 32) rfl ⟨by decide, by decide⟩ (fun c8 => by exfalso; omega) (fun c8 => ?_)
      refine x_A k101_23 (fun _ => rfl) ?_
      refine x_A k101_24 (fun _ => rfl) ?_
      refine x_A k101_25 (fun _ => rfl) ?_
      refine x_callS k101_26 (y := 121) (n := 3) (w0 := 0) (w1 := 3) (as := [vi d, vi 0, vi 2]) (rest := []) (by decide +kernel) rfl rfl rfl rfl (xe_mono (C_X10_isWithin s0 hG0 d (by first | exact x_rb b_d rfl rfl | exact ⟨by omega, by omega⟩) 0 ⟨by decide, by decide⟩ 2 ⟨by decide, by decide⟩) ?_)
      rintro s10 v ⟨h_s10, z9, rfl, hz_z9⟩
      rw [h_s10]
      rcases hz_z9 with ⟨c_z9, e_z9⟩ | ⟨c_z9, e_z9⟩
      · rw [e_z9]
        show xe none 101 29 [(0, .ref 0), (1, vi a), (2, vi b), (3, vi d)] [vi 1] s0 0 0 _
        refine x_if_ne k101_29 (t := 36) rfl ⟨by decide, by decide⟩ (fun c11 => ?_) (fun c11 => by exfalso; omega)
        refine x_A k101_36 (fun _ => rfl) ?_
        refine x_getR k101_37 (f := 2) rfl (q := 0) (n := 12) (kd := 3) ⟨by decide, rfl⟩ (q2 := 50) (by decide) rfl ?_
        refine x_getR k101_40 (f := 4) rfl (q := 50) (n := 7) (kd := 6) ⟨by decide, rfl⟩ (q2 := 55) (by decide) rfl ?_
        refine x_A k101_43 (fun _ => rfl) ?_
        refine x_iald k101_44 (q := 55) (n := 120) ⟨by decide, rfl⟩ (by decide) (by first | exact x_rbl b_a rfl rfl | exact ⟨by omega, by omega⟩) ?_
        refine x_top (fun z12 e_z12 => ?_)
        have g_z12 : (0 : Int) ≤ s0 55 a.toNat ∧ s0 55 a.toNat ≤ 9 := hG0 55 a.toNat
        refine x_A k101_45 (fun _ => rfl) ?_
        refine x_ic_le k101_46 (t := 53) rfl (by first | exact x_rbe e_z12 g_z12 rfl rfl | exact x_rb g_z12 rfl rfl | exact ⟨by omega, by omega⟩) (by first | exact x_rb b_b rfl rfl | exact ⟨by omega, by omega⟩) (fun c13 => ?_) (fun c13 => ?_)
        · skip
          refine x_A k101_53 (fun _ => rfl) ?_
          refine x_getR k101_54 (f := 9) rfl (q := 0) (n := 12) (kd := 3) ⟨by decide, rfl⟩ (q2 := 243) (by decide) rfl ?_
          refine x_A k101_57 (fun _ => rfl) ?_
          refine x_callV k101_58 (y := 76) (n := 1) (w0 := 0) (w1 := 1) (as := [vi b]) (rest := []) (by decide +kernel) (q := 243) (nq := 13) (kq := 13) ⟨by decide, rfl⟩ rfl rfl rfl rfl (xe_mono (E_X8_lookIn_243 s0 hG0 (hJ0.fl f0 (by decide)) b (by first | exact x_rb b_b rfl rfl | exact ⟨by omega, by omega⟩) (pR.fl f0 (by decide)) i0_VCj i0_VCl) ?_)
          rintro s15 v ⟨hG_s15, t_s15, rfl, xp_z14⟩
          have f_s15 : FL [3329, 3334, 3335, 3336, 3392, 3456, 3520, 3584, 3276, 3648, 3712, 3776, 3840, 3904, 3968, 3277, 4032, 1921, 1926, 1927, 1928, 1984, 2048, 2112, 2176] s0 s15 := f0.tr t_s15 (by decide)
          have q16 : s15 50 6 = z1 := (t_s15 50 6 (show 711 ∉ [3329, 3334, 3335, 3336, 3392, 3456, 3520, 3584, 3276, 3648, 3712, 3776, 3840, 3904, 3968, 3277, 4032] from by decide)).trans e_z1.symm
          have q17 : s15 0 10 = z5 := (t_s15 0 10 (show 11 ∉ [3329, 3334, 3335, 3336, 3392, 3456, 3520, 3584, 3276, 3648, 3712, 3776, 3840, 3904, 3968, 3277, 4032] from by decide)).trans e_z5.symm
          have q18 : s15 55 a.toNat = z12 := (t_s15 55 a.toNat (show 1024 ∉ [3329, 3334, 3335, 3336, 3392, 3456, 3520, 3584, 3276, 3648, 3712, 3776, 3840, 3904, 3968, 3277, 4032] from by decide)).trans e_z12.symm
          obtain ⟨z19, e_z19⟩ : ∃ z, z = s15 243 11 := ⟨_, rfl⟩
          have g_z19 : (0 : Int) ≤ s15 243 11 ∧ s15 243 11 ≤ 1 := hG_s15 243 11
          obtain ⟨z20, e_z20⟩ : ∃ z, z = s15 243 12 := ⟨_, rfl⟩
          have g_z20 : (-1) ≤ s15 243 12 ∧ s15 243 12 ≤ 9 := hG_s15 243 12
          show xe none 101 61 [(0, .ref 0), (1, vi a), (2, vi b), (3, vi d)] [] s15 0 0 _
          have VCj_k : VCj s15 := VCj.judge hG0 t_s15 (by decide) xp_z14.1
          have VCl_k : VCl s15 := VCl.look hG0 t_s15 (by decide) xp_z14.2.1 xp_z14.2.2.1 xp_z14.2.2.2
          refine x_A k101_61 (fun _ => rfl) ?_
          have c21 : d = 0 ∨ d = 1 ∨ d = 2 := by omega
          rcases c21 with c21 | c21 | c21
          · rw [c21]
            refine x_B k101_62 rfl (fun _ => rfl) (fun _ => rfl) (fun _ _ => rfl) ?_
            show xe none 101 88 [(0, .ref 0), (1, vi a), (2, vi b), (3, vi 0)] [] s15 0 0 _
            refine x_A k101_88 (fun _ => rfl) ?_
            refine x_getR k101_89 (f := 9) rfl (q := 0) (n := 12) (kd := 3) ⟨by decide, rfl⟩ (q2 := 243) (by decide) rfl ?_
            refine x_getR k101_92 (f := 8) rfl (q := 243) (n := 13) (kd := 13) ⟨by decide, rfl⟩ (q2 := 253) (by decide) rfl ?_
            refine x_A k101_95 (fun _ => rfl) ?_
            refine x_iald k101_96 (q := 253) (n := 120) ⟨by decide, rfl⟩ (by decide) (by first | exact x_rbl b_a rfl rfl | exact ⟨by omega, by omega⟩) ?_
            refine x_top (fun z22 e_z22 => ?_)
            have g_z22 : (-1) ≤ s15 253 a.toNat ∧ s15 253 a.toNat ≤ 39 := hG_s15 253 a.toNat
            exact x_iret k101_97 rfl ⟨hG_s15, f_s15, z22, rfl, (by first | exact x_rbe e_z22 g_z22 rfl rfl | exact x_rb g_z22 rfl rfl | exact ⟨by omega, by omega⟩), VCj_k, VCl_k⟩
          · rw [c21]
            refine x_B k101_62 rfl (fun _ => rfl) (fun _ => rfl) (fun _ _ => rfl) ?_
            show xe none 101 98 [(0, .ref 0), (1, vi a), (2, vi b), (3, vi 1)] [] s15 0 0 _
            refine x_A k101_98 (fun _ => rfl) ?_
            refine x_getR k101_99 (f := 9) rfl (q := 0) (n := 12) (kd := 3) ⟨by decide, rfl⟩ (q2 := 243) (by decide) rfl ?_
            refine x_getR k101_102 (f := 9) rfl (q := 243) (n := 13) (kd := 13) ⟨by decide, rfl⟩ (q2 := 254) (by decide) rfl ?_
            refine x_A k101_105 (fun _ => rfl) ?_
            refine x_bald k101_106 (q := 254) (n := 120) ⟨by decide, rfl⟩ (by decide) (by first | exact x_rbl b_a rfl rfl | exact ⟨by omega, by omega⟩) ?_
            refine x_top (fun z23 e_z23 => ?_)
            have g_z23 : (0 : Int) ≤ s15 254 a.toNat ∧ s15 254 a.toNat ≤ 1 := hG_s15 254 a.toNat
            refine x_callS k101_107 (y := 126) (n := 1) (w0 := 0) (w1 := 1) (as := [vi z23]) (rest := []) (by decide +kernel) rfl rfl rfl rfl (xe_mono (C_X10_oneIf s15 hG_s15 z23 (by first | exact x_rbe e_z23 g_z23 rfl rfl | exact x_rb g_z23 rfl rfl | exact ⟨by omega, by omega⟩)) ?_)
            rintro s25 v ⟨-, t_s25, z24, rfl, g_z24⟩
            rw [t_s25.nil]
            show xe none 101 110 [(0, .ref 0), (1, vi a), (2, vi b), (3, vi 1)] [vi z24] s15 0 0 _
            exact x_iret k101_110 rfl ⟨hG_s15, f_s15, z24, rfl, (by first | exact x_rbe e_z24 g_z24 rfl rfl | exact x_rb g_z24 rfl rfl | exact ⟨by omega, by omega⟩), VCj_k, VCl_k⟩
          · rw [c21]
            refine x_B k101_62 rfl (fun _ => rfl) (fun _ => rfl) (fun _ _ => rfl) ?_
            show xe none 101 111 [(0, .ref 0), (1, vi a), (2, vi b), (3, vi 2)] [] s15 0 0 _
            refine x_A k101_111 (fun _ => rfl) ?_
            refine x_getR k101_112 (f := 5) rfl (q := 0) (n := 12) (kd := 3) ⟨by decide, rfl⟩ (q2 := 209) (by decide) rfl ?_
            refine x_A k101_115 (fun _ => rfl) ?_
            refine x_getR k101_116 (f := 4) rfl (q := 0) (n := 12) (kd := 3) ⟨by decide, rfl⟩ (q2 := 179) (by decide) rfl ?_
            refine x_A k101_119 (fun _ => rfl) ?_
            refine x_callV k101_120 (y := 16) (n := 2) (w0 := 0) (w1 := 2) (as := [.ref 179, vi b]) (rest := []) (by decide +kernel) (q := 209) (nq := 8) (kq := 9) ⟨by decide, rfl⟩ rfl rfl rfl rfl (xe_mono (E_X1_setTo_209_179 s15 hG_s15 (hJ0.fl f_s15 (by decide)) b (by first | exact x_rb b_b rfl rfl | exact ⟨by omega, by omega⟩) (pR.fl f_s15 (by decide))) ?_)
            rintro s27 v ⟨hG_s27, t_s27, rfl, xp_z26⟩
            have f_s27 : FL [3329, 3334, 3335, 3336, 3392, 3456, 3520, 3584, 3276, 3648, 3712, 3776, 3840, 3904, 3968, 3277, 4032, 1921, 1926, 1927, 1928, 1984, 2048, 2112, 2176] s0 s27 := f_s15.tr t_s27 (by decide)
            have q28 : s27 50 6 = z1 := (t_s27 50 6 (show 711 ∉ [1921, 1926, 1927, 1928, 1984, 2048, 2112, 2176] from by decide)).trans q16
            have q29 : s27 0 10 = z5 := (t_s27 0 10 (show 11 ∉ [1921, 1926, 1927, 1928, 1984, 2048, 2112, 2176] from by decide)).trans q17
            have q30 : s27 243 11 = z19 := (t_s27 243 11 (show 3276 ∉ [1921, 1926, 1927, 1928, 1984, 2048, 2112, 2176] from by decide)).trans e_z19.symm
            have q31 : s27 243 12 = z20 := (t_s27 243 12 (show 3277 ∉ [1921, 1926, 1927, 1928, 1984, 2048, 2112, 2176] from by decide)).trans e_z20.symm
            have q32 : s27 55 a.toNat = z12 := (t_s27 55 a.toNat (show 1024 ∉ [1921, 1926, 1927, 1928, 1984, 2048, 2112, 2176] from by decide)).trans q18
            have VCj_s27 : VCj s27 := VCj.fl VCj_k hG_s15 t_s27 (by decide)
            have VCl_s27 : VCl s27 := VCl.fl VCl_k hG_s15 t_s27 (by decide)
            show xe none 101 123 [(0, .ref 0), (1, vi a), (2, vi b), (3, vi 2)] [] s27 0 0 _
            refine x_A k101_123 (fun _ => rfl) ?_
            refine x_getR k101_124 (f := 9) rfl (q := 0) (n := 12) (kd := 3) ⟨by decide, rfl⟩ (q2 := 243) (by decide) rfl ?_
            refine x_A k101_127 (fun _ => rfl) ?_
            refine x_A k101_128 (fun _ => rfl) ?_
            refine x_getR k101_129 (f := 5) rfl (q := 0) (n := 12) (kd := 3) ⟨by decide, rfl⟩ (q2 := 209) (by decide) rfl ?_
            refine x_callV k101_132 (y := 83) (n := 2) (w0 := 0) (w1 := 2) (as := [vi a, .ref 209]) (rest := []) (by decide +kernel) (q := 243) (nq := 13) (kq := 13) ⟨by decide, rfl⟩ rfl rfl rfl rfl (xe_mono (C_X8_isLacking_243_209 s27 hG_s27 a (by first | exact x_rb b_a rfl rfl | exact ⟨by omega, by omega⟩)) ?_)
            rintro s34 v ⟨-, t_s34, z33, rfl, g_z33⟩
            rw [t_s34.nil]
            show xe none 101 135 [(0, .ref 0), (1, vi a), (2, vi b), (3, vi 2)] [vi z33] s27 0 0 _
            refine x_callS k101_135 (y := 126) (n := 1) (w0 := 0) (w1 := 1) (as := [vi z33]) (rest := []) (by decide +kernel) rfl rfl rfl rfl (xe_mono (C_X10_oneIf s27 hG_s27 z33 (by first | exact x_rbe e_z33 g_z33 rfl rfl | exact x_rb g_z33 rfl rfl | exact ⟨by omega, by omega⟩)) ?_)
            rintro s36 v ⟨-, t_s36, z35, rfl, g_z35⟩
            rw [t_s36.nil]
            show xe none 101 138 [(0, .ref 0), (1, vi a), (2, vi b), (3, vi 2)] [vi z35] s27 0 0 _
            exact x_iret k101_138 rfl ⟨hG_s27, f_s27, z35, rfl, (by first | exact x_rbe e_z35 g_z35 rfl rfl | exact x_rb g_z35 rfl rfl | exact ⟨by omega, by omega⟩), VCj_s27, VCl_s27⟩
        · skip
          refine x_sipush k101_49 (by decide +kernel) ?_
          exact x_iret k101_52 rfl ⟨hG0, f0, (-1003), rfl, ⟨by decide, by decide⟩, i0_VCj, i0_VCl⟩
      · rw [e_z9]
        show xe none 101 29 [(0, .ref 0), (1, vi a), (2, vi b), (3, vi d)] [vi 0] s0 0 0 _
        refine x_if_ne k101_29 (t := 36) rfl ⟨by decide, by decide⟩ (fun c37 => by exfalso; omega) (fun c37 => ?_)
        refine x_sipush k101_32 (by decide +kernel) ?_
        exact x_iret k101_35 rfl ⟨hG0, f0, (-1002), rfl, ⟨by decide, by decide⟩, i0_VCj, i0_VCl⟩
    · rw [e_z6]
      show xe none 101 20 [(0, .ref 0), (1, vi a), (2, vi b), (3, vi d)] [vi 0] s0 0 0 _
      refine x_if_eq k101_20 (t := 32) rfl ⟨by decide, by decide⟩ (fun c38 => ?_) (fun c38 => by exfalso; omega)
      refine x_sipush k101_32 (by decide +kernel) ?_
      exact x_iret k101_35 rfl ⟨hG0, f0, (-1002), rfl, ⟨by decide, by decide⟩, i0_VCj, i0_VCl⟩
  · rw [e_z2]
    show xe none 101 8 [(0, .ref 0), (1, vi a), (2, vi b), (3, vi d)] [vi 0] s0 0 0 _
    refine x_if_ne k101_8 (t := 15) rfl ⟨by decide, by decide⟩ (fun c39 => by exfalso; omega) (fun c39 => ?_)
    refine x_sipush k101_11 (by decide +kernel) ?_
    exact x_iret k101_14 rfl ⟨hG0, f0, (-1001), rfl, ⟨by decide, by decide⟩, i0_VCj, i0_VCl⟩
set_option maxHeartbeats 8000000 in
theorem L_V_X10_led_0_49 (s0 : xS) (hJ0 : J s0) (a : Int) (b_a : (-2147483648) ≤ a ∧ a ≤ 2147483647) (b : Int) (b_b : (-2147483648) ≤ b ∧ b ≤ 2147483647) (d : Int) (b_d : (-2147483648) ≤ d ∧ d ≤ 2147483647) (pR : R1 s0)  : ∀ (n : Nat) (s : xS) (x1 : Int) (x2 : Int) (x3 : Int) (x4 : Int) (hG : GI s) (f : FL [3329, 3334, 3335, 3336, 3392, 3456, 3520, 3584, 3276, 3648, 3712, 3776, 3840, 3904, 3968, 3277, 4032] s0 s) (b_x1 : 0 ≤ x1 ∧ x1 ≤ 39) (b_x2 : 0 ≤ x2 ∧ x2 ≤ 39) (b_x3 : 0 ≤ x3 ∧ x3 ≤ 9) (b_x4 : 0 ≤ x4 ∧ x4 ≤ 120) (i_VCj : VCj s) (i_VCl : VCl s)  (hm : (120 - x4) < (n : Int)), xe none 102 49 [(0, .ref 0), (1, vi x1), (2, vi x2), (3, vi x3), (4, vi x4)] [] s 0 0 (fun s' v => GI s' ∧ FL [3329, 3334, 3335, 3336, 3392, 3456, 3520, 3584, 3276, 3648, 3712, 3776, 3840, 3904, 3968, 3277, 4032] s0 s' ∧ ∃ z, v = some (vi z) ∧ ((-1004) ≤ z ∧ z ≤ 127) ∧ VCj s' ∧ VCl s') := by
  intro n
  induction n with
  | zero => intro s x1 x2 x3 x4 hG f b_x1 b_x2 b_x3 b_x4 i_VCj i_VCl  hm; exfalso; omega
  | succ n ih =>
    intro s x1 x2 x3 x4 hG f b_x1 b_x2 b_x3 b_x4 i_VCj i_VCl  hm
    refine x_A k102_49 (fun _ => rfl) ?_
    refine x_A k102_51 (fun _ => rfl) ?_
    refine x_getR k102_52 (f := 2) rfl (q := 0) (n := 12) (kd := 3) ⟨by decide, rfl⟩ (q2 := 50) (by decide) rfl ?_
    refine x_getI k102_55 (f := 6) rfl (q := 50) (n := 7) (kd := 6) ⟨by decide, rfl⟩ (by decide) rfl ?_
    refine x_top (fun z559 e_z559 => ?_)
    have g_z559 : (0 : Int) ≤ s 50 6 ∧ s 50 6 ≤ 120 := hG 50 6
    refine x_ic_ge k102_58 (t := 97) rfl (by first | exact x_rb b_x4 rfl rfl | exact ⟨by omega, by omega⟩) (by first | exact x_rbe e_z559 g_z559 rfl rfl | exact x_rb g_z559 rfl rfl | exact ⟨by omega, by omega⟩) (fun c560 => ?_) (fun c560 => ?_)
    · skip
      refine x_A k102_97 (fun _ => rfl) ?_
      exact x_iret k102_98 rfl ⟨hG, f, (-1), rfl, ⟨by decide, by decide⟩, i_VCj, i_VCl⟩
    · skip
      refine x_A k102_61 (fun _ => rfl) ?_
      refine x_getR k102_62 (f := 2) rfl (q := 0) (n := 12) (kd := 3) ⟨by decide, rfl⟩ (q2 := 50) (by decide) rfl ?_
      refine x_getR k102_65 (f := 0) rfl (q := 50) (n := 7) (kd := 6) ⟨by decide, rfl⟩ (q2 := 51) (by decide) rfl ?_
      refine x_A k102_68 (fun _ => rfl) ?_
      refine x_iald k102_70 (q := 51) (n := 120) ⟨by decide, rfl⟩ (by decide) (by first | exact x_rbl b_x4 rfl rfl | exact ⟨by omega, by omega⟩) ?_
      refine x_top (fun z561 e_z561 => ?_)
      have g_z561 : (0 : Int) ≤ s 51 x4.toNat ∧ s 51 x4.toNat ≤ 39 := hG 51 x4.toNat
      refine x_A k102_71 (fun _ => rfl) ?_
      refine x_ic_ne k102_72 (t := 91) rfl (by first | exact x_rbe e_z561 g_z561 rfl rfl | exact x_rb g_z561 rfl rfl | exact ⟨by omega, by omega⟩) (by first | exact x_rb b_x1 rfl rfl | exact ⟨by omega, by omega⟩) (fun c562 => ?_) (fun c562 => ?_)
      · skip
        refine x_iinc k102_91 (ls' := [(4, vi (x4 + 1)), (0, .ref 0), (1, vi x1), (2, vi x2), (3, vi x3)]) rfl (by decide) rfl ?_
        refine x_goto k102_94 (t := 49) rfl ?_
        refine x_ls (l := [(0, .ref 0), (1, vi x1), (2, vi x2), (3, vi x3), (4, vi (x4 + 1))]) (show ([0, 1, 2, 3, 4] : List Nat).Nodup from by decide) ⟨rfl, rfl, rfl, rfl, rfl, trivial⟩ ?_
        exact ih s x1 x2 x3 (x4 + 1) hG f (by first | exact x_rb b_x1 rfl rfl | exact ⟨by omega, by omega⟩) (by first | exact x_rb b_x2 rfl rfl | exact ⟨by omega, by omega⟩) (by first | exact x_rb b_x3 rfl rfl | exact ⟨by omega, by omega⟩) ⟨by omega, by omega⟩ i_VCj i_VCl  (by omega)
      · skip
        refine x_A k102_75 (fun _ => rfl) ?_
        refine x_getR k102_76 (f := 9) rfl (q := 0) (n := 12) (kd := 3) ⟨by decide, rfl⟩ (q2 := 243) (by decide) rfl ?_
        refine x_A k102_79 (fun _ => rfl) ?_
        refine x_A k102_81 (fun _ => rfl) ?_
        refine x_callV k102_82 (y := 81) (n := 2) (w0 := 0) (w1 := 2) (as := [vi x4, vi x2]) (rest := []) (by decide +kernel) (q := 243) (nq := 13) (kq := 13) ⟨by decide, rfl⟩ rfl rfl rfl rfl (xe_mono (C_X8_meansBelow_243 s hG x4 (by first | exact x_rb b_x4 rfl rfl | exact ⟨by omega, by omega⟩) x2 (by first | exact x_rb b_x2 rfl rfl | exact ⟨by omega, by omega⟩)) ?_)
        rintro s564 v ⟨-, t_s564, z563, rfl, g_z563⟩
        rw [t_s564.nil]
        show xe none 102 85 [(0, .ref 0), (1, vi x1), (2, vi x2), (3, vi x3), (4, vi x4)] [vi z563] s 0 0 _
        refine x_if_eq k102_85 (t := 91) rfl (by first | exact x_rbe e_z563 g_z563 rfl rfl | exact x_rb g_z563 rfl rfl | exact ⟨by omega, by omega⟩) (fun c565 => ?_) (fun c565 => ?_)
        · skip
          refine x_iinc k102_91 (ls' := [(4, vi (x4 + 1)), (0, .ref 0), (1, vi x1), (2, vi x2), (3, vi x3)]) rfl (by decide) rfl ?_
          refine x_goto k102_94 (t := 49) rfl ?_
          refine x_ls (l := [(0, .ref 0), (1, vi x1), (2, vi x2), (3, vi x3), (4, vi (x4 + 1))]) (show ([0, 1, 2, 3, 4] : List Nat).Nodup from by decide) ⟨rfl, rfl, rfl, rfl, rfl, trivial⟩ ?_
          exact ih s x1 x2 x3 (x4 + 1) hG f (by first | exact x_rb b_x1 rfl rfl | exact ⟨by omega, by omega⟩) (by first | exact x_rb b_x2 rfl rfl | exact ⟨by omega, by omega⟩) (by first | exact x_rb b_x3 rfl rfl | exact ⟨by omega, by omega⟩) ⟨by omega, by omega⟩ i_VCj i_VCl  (by omega)
        · skip
          refine x_A k102_88 (fun _ => rfl) ?_
          exact x_iret k102_90 rfl ⟨hG, f, x4, rfl, (by first | exact x_rb b_x4 rfl rfl | exact ⟨by omega, by omega⟩), i_VCj, i_VCl⟩
