set_option maxHeartbeats 8000000 in
theorem V_X10_hands_0 (s0 : xS) (hG0 : GI s0) (hJ0 : J s0) (a : Int) (b_a : (-2147483648) ≤ a ∧ a ≤ 2147483647) (b : Int) (b_b : (-2147483648) ≤ b ∧ b ≤ 2147483647) (d : Int) (b_d : (-2147483648) ≤ d ∧ d ≤ 2147483647) (e : Int) (b_e : (-2147483648) ≤ e ∧ e ≤ 2147483647) (h : Int) (b_h : (-2147483648) ≤ h ∧ h ≤ 2147483647) (pR : R1 s0) (i0_VCj : VCj s0) (i0_VCl : VCl s0) : xe none 112 0 (lv_args 0 [.ref 0, vi a, vi b, vi d, vi e, vi h]) [] s0 0 0 (fun s' v => GI s' ∧ FL [3329, 3334, 3335, 3336, 3392, 3456, 3520, 3584, 3276, 3648, 3712, 3776, 3840, 3904, 3968, 3277, 4032] s0 s' ∧ ∃ z, v = some (vi z) ∧ ((-2147483648) ≤ z ∧ z ≤ 2147483647) ∧ VCj s' ∧ VCl s') := by
  have f0 : FL [3329, 3334, 3335, 3336, 3392, 3456, 3520, 3584, 3276, 3648, 3712, 3776, 3840, 3904, 3968, 3277, 4032] s0 s0 := FL.rf
  show xe none 112 0 [(0, .ref 0), (1, vi a), (2, vi b), (3, vi d), (4, vi e), (5, vi h)] [] s0 0 0 _
  refine x_A k112_0 (fun _ => rfl) ?_
  refine x_getR k112_1 (f := 0) rfl (q := 0) (n := 12) (kd := 3) ⟨by decide, rfl⟩ (q2 := 1) (by decide) rfl ?_
  refine x_A k112_4 (fun _ => rfl) ?_
  obtain ⟨z1, e_z1⟩ : ∃ z, z = s0 1 4 := ⟨_, rfl⟩
  have g_z1 : (1 : Int) ≤ s0 1 4 ∧ s0 1 4 ≤ 40 := hG0 1 4
  refine x_callV k112_5 (y := 59) (n := 1) (w0 := 0) (w1 := 1) (as := [vi d]) (rest := []) (by decide +kernel) (q := 1) (nq := 5) (kq := 4) ⟨by decide, rfl⟩ rfl rfl rfl rfl (xe_mono (C_X7_has_1 s0 hG0 d (by first | exact x_rb b_d rfl rfl | exact ⟨by omega, by omega⟩)) ?_)
  rintro s3 v ⟨h_s3, z2, rfl, hz_z2⟩
  rw [h_s3]
  rcases hz_z2 with ⟨c_z2, e_z2⟩ | ⟨c_z2, e_z2⟩
  · rw [e_z2]
    show xe none 112 8 [(0, .ref 0), (1, vi a), (2, vi b), (3, vi d), (4, vi e), (5, vi h)] [vi 1] s0 0 0 _
    refine x_if_ne k112_8 (t := 15) rfl ⟨by decide, by decide⟩ (fun c4 => ?_) (fun c4 => by exfalso; omega)
    refine x_A k112_15 (fun _ => rfl) ?_
    refine x_callS k112_16 (y := 123) (n := 1) (w0 := 0) (w1 := 1) (as := [vi a]) (rest := []) (by decide +kernel) rfl rfl rfl rfl (xe_mono (C_X10_isHand s0 hG0 a (by first | exact x_rb b_a rfl rfl | exact ⟨by omega, by omega⟩)) ?_)
    rintro s6 v ⟨h_s6, z5, rfl, hz_z5⟩
    rw [h_s6]
    rcases hz_z5 with ⟨c_z5, e_z5⟩ | ⟨c_z5, e_z5⟩
    · rw [e_z5]
      show xe none 112 19 [(0, .ref 0), (1, vi a), (2, vi b), (3, vi d), (4, vi e), (5, vi h)] [vi 1] s0 0 0 _
      refine x_if_eq k112_19 (t := 34) rfl ⟨by decide, by decide⟩ (fun c7 => by exfalso; omega) (fun c7 => ?_)
      refine x_A k112_22 (fun _ => rfl) ?_
      refine x_callS k112_23 (y := 123) (n := 1) (w0 := 0) (w1 := 1) (as := [vi b]) (rest := []) (by decide +kernel) rfl rfl rfl rfl (xe_mono (C_X10_isHand s0 hG0 b (by first | exact x_rb b_b rfl rfl | exact ⟨by omega, by omega⟩)) ?_)
      rintro s9 v ⟨h_s9, z8, rfl, hz_z8⟩
      rw [h_s9]
      rcases hz_z8 with ⟨c_z8, e_z8⟩ | ⟨c_z8, e_z8⟩
      · rw [e_z8]
        show xe none 112 26 [(0, .ref 0), (1, vi a), (2, vi b), (3, vi d), (4, vi e), (5, vi h)] [vi 1] s0 0 0 _
        refine x_if_eq k112_26 (t := 34) rfl ⟨by decide, by decide⟩ (fun c10 => by exfalso; omega) (fun c10 => ?_)
        refine x_A k112_29 (fun _ => rfl) ?_
        refine x_A k112_30 (fun _ => rfl) ?_
        refine x_ic_ne k112_31 (t := 38) rfl (by first | exact x_rb b_a rfl rfl | exact ⟨by omega, by omega⟩) (by first | exact x_rb b_b rfl rfl | exact ⟨by omega, by omega⟩) (fun c11 => ?_) (fun c11 => ?_)
        · skip
          refine x_A k112_38 (fun _ => rfl) ?_
          refine x_A k112_39 (fun _ => rfl) ?_
          obtain ⟨z12, e_z12⟩ : ∃ z, z = s0 0 10 := ⟨_, rfl⟩
          have g_z12 : (0 : Int) ≤ s0 0 10 ∧ s0 0 10 ≤ 9 := hG0 0 10
          refine x_callV k112_41 (y := 125) (n := 1) (w0 := 0) (w1 := 1) (as := [vi e]) (rest := []) (by decide +kernel) (q := 0) (nq := 12) (kq := 3) ⟨by decide, rfl⟩ rfl rfl rfl rfl (xe_mono (C_X10_isKnownEdition_0 s0 hG0 e (by first | exact x_rb b_e rfl rfl | exact ⟨by omega, by omega⟩)) ?_)
          rintro s14 v ⟨h_s14, z13, rfl, hz_z13⟩
          rw [h_s14]
          rcases hz_z13 with ⟨c_z13, e_z13⟩ | ⟨c_z13, e_z13⟩
          · rw [e_z13]
            show xe none 112 44 [(0, .ref 0), (1, vi a), (2, vi b), (3, vi d), (4, vi e), (5, vi h)] [vi 1] s0 0 0 _
            refine x_if_eq k112_44 (t := 57) rfl ⟨by decide, by decide⟩ (fun c15 => by exfalso; omega) (fun c15 => ?_)
            refine x_A k112_47 (fun _ => rfl) ?_
            refine x_A k112_49 (fun _ => rfl) ?_
            refine x_A k112_50 (fun _ => rfl) ?_
            refine x_callS k112_51 (y := 121) (n := 3) (w0 := 0) (w1 := 3) (as := [vi h, vi 0, vi 4]) (rest := []) (by decide +kernel) rfl rfl rfl rfl (xe_mono (C_X10_isWithin s0 hG0 h (by first | exact x_rb b_h rfl rfl | exact ⟨by omega, by omega⟩) 0 ⟨by decide, by decide⟩ 4 ⟨by decide, by decide⟩) ?_)
            rintro s17 v ⟨h_s17, z16, rfl, hz_z16⟩
            rw [h_s17]
            rcases hz_z16 with ⟨c_z16, e_z16⟩ | ⟨c_z16, e_z16⟩
            · rw [e_z16]
              show xe none 112 54 [(0, .ref 0), (1, vi a), (2, vi b), (3, vi d), (4, vi e), (5, vi h)] [vi 1] s0 0 0 _
              refine x_if_ne k112_54 (t := 61) rfl ⟨by decide, by decide⟩ (fun c18 => ?_) (fun c18 => by exfalso; omega)
              refine x_A k112_61 (fun _ => rfl) ?_
              refine x_getR k112_62 (f := 9) rfl (q := 0) (n := 12) (kd := 3) ⟨by decide, rfl⟩ (q2 := 243) (by decide) rfl ?_
              refine x_A k112_65 (fun _ => rfl) ?_
              refine x_callV k112_67 (y := 76) (n := 1) (w0 := 0) (w1 := 1) (as := [vi e]) (rest := []) (by decide +kernel) (q := 243) (nq := 13) (kq := 13) ⟨by decide, rfl⟩ rfl rfl rfl rfl (xe_mono (E_X8_lookIn_243 s0 hG0 (hJ0.fl f0 (by decide)) e (by first | exact x_rb b_e rfl rfl | exact ⟨by omega, by omega⟩) (pR.fl f0 (by decide)) i0_VCj i0_VCl) ?_)
              rintro s20 v ⟨hG_s20, t_s20, rfl, xp_z19⟩
              have f_s20 : FL [3329, 3334, 3335, 3336, 3392, 3456, 3520, 3584, 3276, 3648, 3712, 3776, 3840, 3904, 3968, 3277, 4032] s0 s20 := f0.tr t_s20 (by decide)
              have q21 : s20 1 4 = z1 := (t_s20 1 4 (show 69 ∉ [3329, 3334, 3335, 3336, 3392, 3456, 3520, 3584, 3276, 3648, 3712, 3776, 3840, 3904, 3968, 3277, 4032] from by decide)).trans e_z1.symm
              have q22 : s20 0 10 = z12 := (t_s20 0 10 (show 11 ∉ [3329, 3334, 3335, 3336, 3392, 3456, 3520, 3584, 3276, 3648, 3712, 3776, 3840, 3904, 3968, 3277, 4032] from by decide)).trans e_z12.symm
              obtain ⟨z23, e_z23⟩ : ∃ z, z = s20 243 11 := ⟨_, rfl⟩
              have g_z23 : (0 : Int) ≤ s20 243 11 ∧ s20 243 11 ≤ 1 := hG_s20 243 11
              obtain ⟨z24, e_z24⟩ : ∃ z, z = s20 243 12 := ⟨_, rfl⟩
              have g_z24 : (-1) ≤ s20 243 12 ∧ s20 243 12 ≤ 9 := hG_s20 243 12
              show xe none 112 70 [(0, .ref 0), (1, vi a), (2, vi b), (3, vi d), (4, vi e), (5, vi h)] [] s20 0 0 _
              have VCj_k : VCj s20 := VCj.judge hG0 t_s20 (by decide) xp_z19.1
              have VCl_k : VCl s20 := VCl.look hG0 t_s20 (by decide) xp_z19.2.1 xp_z19.2.2.1 xp_z19.2.2.2
              refine x_A k112_70 (fun _ => rfl) ?_
              refine x_getR k112_71 (f := 2) rfl (q := 0) (n := 12) (kd := 3) ⟨by decide, rfl⟩ (q2 := 50) (by decide) rfl ?_
              refine x_A k112_74 (fun _ => rfl) ?_
              refine x_A k112_75 (fun _ => rfl) ?_
              refine x_callV k112_77 (y := 27) (n := 2) (w0 := 0) (w1 := 2) (as := [vi a, vi e]) (rest := []) (by decide +kernel) (q := 50) (nq := 7) (kq := 6) ⟨by decide, rfl⟩ rfl rfl rfl rfl (xe_mono (C_X2_picturesOf_50 s20 hG_s20 a (by first | exact x_rb b_a rfl rfl | exact ⟨by omega, by omega⟩) e (by first | exact x_rb b_e rfl rfl | exact ⟨by omega, by omega⟩)) ?_)
              rintro s26 v ⟨-, t_s26, z25, rfl, b_z25⟩
              rw [t_s26.nil]
              show xe none 112 80 [(0, .ref 0), (1, vi a), (2, vi b), (3, vi d), (4, vi e), (5, vi h)] [vj z25] s20 0 0 _
              refine x_A k112_80 (fun _ => rfl) ?_
              refine x_getR k112_81 (f := 2) rfl (q := 0) (n := 12) (kd := 3) ⟨by decide, rfl⟩ (q2 := 50) (by decide) rfl ?_
              refine x_A k112_84 (fun _ => rfl) ?_
              refine x_A k112_85 (fun _ => rfl) ?_
              refine x_callV k112_87 (y := 27) (n := 2) (w0 := 2) (w1 := 2) (as := [vi b, vi e]) (rest := [vj z25]) (by decide +kernel) (q := 50) (nq := 7) (kq := 6) ⟨by decide, rfl⟩ rfl rfl rfl rfl (xe_mono (C_X2_picturesOf_50 s20 hG_s20 b (by first | exact x_rb b_b rfl rfl | exact ⟨by omega, by omega⟩) e (by first | exact x_rb b_e rfl rfl | exact ⟨by omega, by omega⟩)) ?_)
              rintro s28 v ⟨-, t_s28, z27, rfl, b_z27⟩
              rw [t_s28.nil]
              show xe none 112 90 [(0, .ref 0), (1, vi a), (2, vi b), (3, vi d), (4, vi e), (5, vi h)] [vj z27, vj z25] s20 0 0 _
              refine x_land_any k112_90 (fun z29 b_z29 => ?_)
              refine x_lstore k112_91 (ls' := [(6, vj z29), (0, .ref 0), (1, vi a), (2, vi b), (3, vi d), (4, vi e), (5, vi h)]) (by decide) rfl ?_
              refine x_A k112_93 (fun _ => rfl) ?_
              refine x_getR k112_94 (f := 9) rfl (q := 0) (n := 12) (kd := 3) ⟨by decide, rfl⟩ (q2 := 243) (by decide) rfl ?_
              refine x_A k112_97 (fun _ => rfl) ?_
              refine x_A k112_98 (fun _ => rfl) ?_
              refine x_callV k112_99 (y := 82) (n := 2) (w0 := 0) (w1 := 2) (as := [vi a, vi d]) (rest := []) (by decide +kernel) (q := 243) (nq := 13) (kq := 13) ⟨by decide, rfl⟩ rfl rfl rfl rfl (xe_mono (C_X8_seenBy_243 s20 hG_s20 a (by first | exact x_rb b_a rfl rfl | exact ⟨by omega, by omega⟩) d (by first | exact x_rb b_d rfl rfl | exact ⟨by omega, by omega⟩)) ?_)
              rintro s31 v ⟨-, t_s31, z30, rfl, b_z30⟩
              rw [t_s31.nil]
              show xe none 112 102 [(6, vj z29), (0, .ref 0), (1, vi a), (2, vi b), (3, vi d), (4, vi e), (5, vi h)] [vj z30] s20 0 0 _
              refine x_A k112_102 (fun _ => rfl) ?_
              refine x_land_any k112_104 (fun z32 b_z32 => ?_)
              refine x_lstore k112_105 (ls' := [(8, vj z32), (6, vj z29), (0, .ref 0), (1, vi a), (2, vi b), (3, vi d), (4, vi e), (5, vi h)]) (by decide) rfl ?_
              refine x_A k112_107 (fun _ => rfl) ?_
              refine x_getR k112_108 (f := 9) rfl (q := 0) (n := 12) (kd := 3) ⟨by decide, rfl⟩ (q2 := 243) (by decide) rfl ?_
              refine x_A k112_111 (fun _ => rfl) ?_
              refine x_A k112_112 (fun _ => rfl) ?_
              refine x_callV k112_113 (y := 82) (n := 2) (w0 := 0) (w1 := 2) (as := [vi b, vi d]) (rest := []) (by decide +kernel) (q := 243) (nq := 13) (kq := 13) ⟨by decide, rfl⟩ rfl rfl rfl rfl (xe_mono (C_X8_seenBy_243 s20 hG_s20 b (by first | exact x_rb b_b rfl rfl | exact ⟨by omega, by omega⟩) d (by first | exact x_rb b_d rfl rfl | exact ⟨by omega, by omega⟩)) ?_)
              rintro s34 v ⟨-, t_s34, z33, rfl, b_z33⟩
              rw [t_s34.nil]
              show xe none 112 116 [(8, vj z32), (6, vj z29), (0, .ref 0), (1, vi a), (2, vi b), (3, vi d), (4, vi e), (5, vi h)] [vj z33] s20 0 0 _
              refine x_A k112_116 (fun _ => rfl) ?_
              refine x_land_any k112_118 (fun z35 b_z35 => ?_)
              refine x_lstore k112_119 (ls' := [(10, vj z35), (8, vj z32), (6, vj z29), (0, .ref 0), (1, vi a), (2, vi b), (3, vi d), (4, vi e), (5, vi h)]) (by decide) rfl ?_
              refine x_A k112_121 (fun _ => rfl) ?_
              have c36 : h = 0 ∨ h = 1 ∨ h = 2 ∨ h = 3 ∨ ¬ (0 ≤ h ∧ h ≤ 3) := by omega
              rcases c36 with c36 | c36 | c36 | c36 | c36
              · rw [c36]
                refine x_B k112_123 rfl (fun _ => rfl) (fun _ => rfl) (fun _ _ => rfl) ?_
                show xe none 112 152 [(10, vj z35), (8, vj z32), (6, vj z29), (0, .ref 0), (1, vi a), (2, vi b), (3, vi d), (4, vi e), (5, vi 0)] [] s20 0 0 _
                refine x_A k112_152 (fun _ => rfl) ?_
                refine x_callS k112_154 (y := 219) (n := 1) (w0 := 0) (w1 := 2) (as := [vj z29]) (rest := []) (by decide +kernel) rfl rfl rfl rfl (xe_mono (E_J13_bitCount_95d88 s20 hG_s20 z29 b_z29) ?_)
                rintro s38 v ⟨-, t_s38, z37, rfl, g_z37, xp_z37⟩
                rw [t_s38.nil]
                try rw [t_s38.nil] at xp_z37
                show xe none 112 157 [(10, vj z35), (8, vj z32), (6, vj z29), (0, .ref 0), (1, vi a), (2, vi b), (3, vi d), (4, vi e), (5, vi 0)] [vi z37] s20 0 0 _
                exact x_iret k112_157 rfl ⟨hG_s20, f_s20, z37, rfl, (by first | exact x_rbe e_z37 g_z37 rfl rfl | exact x_rb g_z37 rfl rfl | exact ⟨by omega, by omega⟩), VCj_k, VCl_k⟩
              · rw [c36]
                refine x_B k112_123 rfl (fun _ => rfl) (fun _ => rfl) (fun _ _ => rfl) ?_
                show xe none 112 158 [(10, vj z35), (8, vj z32), (6, vj z29), (0, .ref 0), (1, vi a), (2, vi b), (3, vi d), (4, vi e), (5, vi 1)] [] s20 0 0 _
                refine x_A k112_158 (fun _ => rfl) ?_
                refine x_callS k112_160 (y := 219) (n := 1) (w0 := 0) (w1 := 2) (as := [vj z32]) (rest := []) (by decide +kernel) rfl rfl rfl rfl (xe_mono (E_J13_bitCount_95d88 s20 hG_s20 z32 b_z32) ?_)
                rintro s40 v ⟨-, t_s40, z39, rfl, g_z39, xp_z39⟩
                rw [t_s40.nil]
                try rw [t_s40.nil] at xp_z39
                show xe none 112 163 [(10, vj z35), (8, vj z32), (6, vj z29), (0, .ref 0), (1, vi a), (2, vi b), (3, vi d), (4, vi e), (5, vi 1)] [vi z39] s20 0 0 _
                exact x_iret k112_163 rfl ⟨hG_s20, f_s20, z39, rfl, (by first | exact x_rbe e_z39 g_z39 rfl rfl | exact x_rb g_z39 rfl rfl | exact ⟨by omega, by omega⟩), VCj_k, VCl_k⟩
              · rw [c36]
                refine x_B k112_123 rfl (fun _ => rfl) (fun _ => rfl) (fun _ _ => rfl) ?_
                show xe none 112 164 [(10, vj z35), (8, vj z32), (6, vj z29), (0, .ref 0), (1, vi a), (2, vi b), (3, vi d), (4, vi e), (5, vi 2)] [] s20 0 0 _
                refine x_A k112_164 (fun _ => rfl) ?_
                refine x_callS k112_166 (y := 219) (n := 1) (w0 := 0) (w1 := 2) (as := [vj z35]) (rest := []) (by decide +kernel) rfl rfl rfl rfl (xe_mono (E_J13_bitCount_95d88 s20 hG_s20 z35 b_z35) ?_)
                rintro s42 v ⟨-, t_s42, z41, rfl, g_z41, xp_z41⟩
                rw [t_s42.nil]
                try rw [t_s42.nil] at xp_z41
                show xe none 112 169 [(10, vj z35), (8, vj z32), (6, vj z29), (0, .ref 0), (1, vi a), (2, vi b), (3, vi d), (4, vi e), (5, vi 2)] [vi z41] s20 0 0 _
                exact x_iret k112_169 rfl ⟨hG_s20, f_s20, z41, rfl, (by first | exact x_rbe e_z41 g_z41 rfl rfl | exact x_rb g_z41 rfl rfl | exact ⟨by omega, by omega⟩), VCj_k, VCl_k⟩
              · rw [c36]
                refine x_B k112_123 rfl (fun _ => rfl) (fun _ => rfl) (fun _ _ => rfl) ?_
                show xe none 112 170 [(10, vj z35), (8, vj z32), (6, vj z29), (0, .ref 0), (1, vi a), (2, vi b), (3, vi d), (4, vi e), (5, vi 3)] [] s20 0 0 _
                refine x_A k112_170 (fun _ => rfl) ?_
                refine x_A k112_172 (fun _ => rfl) ?_
                refine x_land_any k112_174 (fun z43 b_z43 => ?_)
                refine x_callS k112_175 (y := 219) (n := 1) (w0 := 0) (w1 := 2) (as := [vj z43]) (rest := []) (by decide +kernel) rfl rfl rfl rfl (xe_mono (E_J13_bitCount_95d88 s20 hG_s20 z43 b_z43) ?_)
                rintro s45 v ⟨-, t_s45, z44, rfl, g_z44, xp_z44⟩
                rw [t_s45.nil]
                try rw [t_s45.nil] at xp_z44
                show xe none 112 178 [(10, vj z35), (8, vj z32), (6, vj z29), (0, .ref 0), (1, vi a), (2, vi b), (3, vi d), (4, vi e), (5, vi 3)] [vi z44] s20 0 0 _
                exact x_iret k112_178 rfl ⟨hG_s20, f_s20, z44, rfl, (by first | exact x_rbe e_z44 g_z44 rfl rfl | exact x_rb g_z44 rfl rfl | exact ⟨by omega, by omega⟩), VCj_k, VCl_k⟩
              · refine x_tabD k112_123 ⟨by omega, by omega⟩ c36 (t0 := 179) rfl ?_
                refine x_A k112_179 (fun _ => rfl) ?_
                refine x_A k112_181 (fun _ => rfl) ?_
                refine x_callS k112_183 (y := 129) (n := 2) (w0 := 0) (w1 := 4) (as := [vj z32, vj z35]) (rest := []) (by decide +kernel) rfl rfl rfl rfl (xe_mono (C_X10_missed s20 hG_s20 z32 b_z32 z35 b_z35) ?_)
                rintro s47 v ⟨-, t_s47, z46, rfl, g_z46⟩
                rw [t_s47.nil]
                show xe none 112 186 [(10, vj z35), (8, vj z32), (6, vj z29), (0, .ref 0), (1, vi a), (2, vi b), (3, vi d), (4, vi e), (5, vi h)] [vi z46] s20 0 0 _
                exact x_iret k112_186 rfl ⟨hG_s20, f_s20, z46, rfl, (by first | exact x_rbe e_z46 g_z46 rfl rfl | exact x_rb g_z46 rfl rfl | exact ⟨by omega, by omega⟩), VCj_k, VCl_k⟩
            · rw [e_z16]
              show xe none 112 54 [(0, .ref 0), (1, vi a), (2, vi b), (3, vi d), (4, vi e), (5, vi h)] [vi 0] s0 0 0 _
              refine x_if_ne k112_54 (t := 61) rfl ⟨by decide, by decide⟩ (fun c48 => by exfalso; omega) (fun c48 => ?_)
              refine x_sipush k112_57 (by decide +kernel) ?_
              exact x_iret k112_60 rfl ⟨hG0, f0, (-1002), rfl, ⟨by decide, by decide⟩, i0_VCj, i0_VCl⟩
          · rw [e_z13]
            show xe none 112 44 [(0, .ref 0), (1, vi a), (2, vi b), (3, vi d), (4, vi e), (5, vi h)] [vi 0] s0 0 0 _
            refine x_if_eq k112_44 (t := 57) rfl ⟨by decide, by decide⟩ (fun c49 => ?_) (fun c49 => by exfalso; omega)
            refine x_sipush k112_57 (by decide +kernel) ?_
            exact x_iret k112_60 rfl ⟨hG0, f0, (-1002), rfl, ⟨by decide, by decide⟩, i0_VCj, i0_VCl⟩
        · skip
          refine x_sipush k112_34 (by decide +kernel) ?_
          exact x_iret k112_37 rfl ⟨hG0, f0, (-1002), rfl, ⟨by decide, by decide⟩, i0_VCj, i0_VCl⟩
      · rw [e_z8]
        show xe none 112 26 [(0, .ref 0), (1, vi a), (2, vi b), (3, vi d), (4, vi e), (5, vi h)] [vi 0] s0 0 0 _
        refine x_if_eq k112_26 (t := 34) rfl ⟨by decide, by decide⟩ (fun c50 => ?_) (fun c50 => by exfalso; omega)
        refine x_sipush k112_34 (by decide +kernel) ?_
        exact x_iret k112_37 rfl ⟨hG0, f0, (-1002), rfl, ⟨by decide, by decide⟩, i0_VCj, i0_VCl⟩
    · rw [e_z5]
      show xe none 112 19 [(0, .ref 0), (1, vi a), (2, vi b), (3, vi d), (4, vi e), (5, vi h)] [vi 0] s0 0 0 _
      refine x_if_eq k112_19 (t := 34) rfl ⟨by decide, by decide⟩ (fun c51 => ?_) (fun c51 => by exfalso; omega)
      refine x_sipush k112_34 (by decide +kernel) ?_
      exact x_iret k112_37 rfl ⟨hG0, f0, (-1002), rfl, ⟨by decide, by decide⟩, i0_VCj, i0_VCl⟩
  · rw [e_z2]
    show xe none 112 8 [(0, .ref 0), (1, vi a), (2, vi b), (3, vi d), (4, vi e), (5, vi h)] [vi 0] s0 0 0 _
    refine x_if_ne k112_8 (t := 15) rfl ⟨by decide, by decide⟩ (fun c52 => by exfalso; omega) (fun c52 => ?_)
    refine x_sipush k112_11 (by decide +kernel) ?_
    exact x_iret k112_14 rfl ⟨hG0, f0, (-1001), rfl, ⟨by decide, by decide⟩, i0_VCj, i0_VCl⟩
set_option maxHeartbeats 8000000 in
theorem V_X10_together_0 (s0 : xS) (hG0 : GI s0) (hJ0 : J s0) (a : Int) (b_a : (-2147483648) ≤ a ∧ a ≤ 2147483647) (b : Int) (b_b : (-2147483648) ≤ b ∧ b ≤ 2147483647) (d : Int) (b_d : (-2147483648) ≤ d ∧ d ≤ 2147483647) (e : Int) (b_e : (-2147483648) ≤ e ∧ e ≤ 2147483647) (h : Int) (b_h : (-2147483648) ≤ h ∧ h ≤ 2147483647) (j : Int) (b_j : (-2147483648) ≤ j ∧ j ≤ 2147483647) (pR : R1 s0) (i0_VCj : VCj s0) (i0_VCl : VCl s0) : xe none 113 0 (lv_args 0 [.ref 0, vi a, vi b, vi d, vi e, vi h, vi j]) [] s0 0 0 (fun s' v => GI s' ∧ FL [3329, 3334, 3335, 3336, 3392, 3456, 3520, 3584, 3276, 3648, 3712, 3776, 3840, 3904, 3968, 3277, 4032] s0 s' ∧ ∃ z, v = some (vi z) ∧ ((-1004) ≤ z ∧ z ≤ 127) ∧ VCj s' ∧ VCl s') := by
  have f0 : FL [3329, 3334, 3335, 3336, 3392, 3456, 3520, 3584, 3276, 3648, 3712, 3776, 3840, 3904, 3968, 3277, 4032] s0 s0 := FL.rf
  show xe none 113 0 [(0, .ref 0), (1, vi a), (2, vi b), (3, vi d), (4, vi e), (5, vi h), (6, vi j)] [] s0 0 0 _
  refine x_A k113_0 (fun _ => rfl) ?_
  refine x_getR k113_1 (f := 0) rfl (q := 0) (n := 12) (kd := 3) ⟨by decide, rfl⟩ (q2 := 1) (by decide) rfl ?_
  refine x_A k113_4 (fun _ => rfl) ?_
  obtain ⟨z1, e_z1⟩ : ∃ z, z = s0 1 4 := ⟨_, rfl⟩
  have g_z1 : (1 : Int) ≤ s0 1 4 ∧ s0 1 4 ≤ 40 := hG0 1 4
  refine x_callV k113_5 (y := 59) (n := 1) (w0 := 0) (w1 := 1) (as := [vi a]) (rest := []) (by decide +kernel) (q := 1) (nq := 5) (kq := 4) ⟨by decide, rfl⟩ rfl rfl rfl rfl (xe_mono (C_X7_has_1 s0 hG0 a (by first | exact x_rb b_a rfl rfl | exact ⟨by omega, by omega⟩)) ?_)
  rintro s3 v ⟨h_s3, z2, rfl, hz_z2⟩
  rw [h_s3]
  rcases hz_z2 with ⟨c_z2, e_z2⟩ | ⟨c_z2, e_z2⟩
  · rw [e_z2]
    show xe none 113 8 [(0, .ref 0), (1, vi a), (2, vi b), (3, vi d), (4, vi e), (5, vi h), (6, vi j)] [vi 1] s0 0 0 _
    refine x_if_eq k113_8 (t := 22) rfl ⟨by decide, by decide⟩ (fun c4 => by exfalso; omega) (fun c4 => ?_)
    refine x_A k113_11 (fun _ => rfl) ?_
    refine x_getR k113_12 (f := 0) rfl (q := 0) (n := 12) (kd := 3) ⟨by decide, rfl⟩ (q2 := 1) (by decide) rfl ?_
    refine x_A k113_15 (fun _ => rfl) ?_
    refine x_callV k113_16 (y := 59) (n := 1) (w0 := 0) (w1 := 1) (as := [vi b]) (rest := []) (by decide +kernel) (q := 1) (nq := 5) (kq := 4) ⟨by decide, rfl⟩ rfl rfl rfl rfl (xe_mono (C_X7_has_1 s0 hG0 b (by first | exact x_rb b_b rfl rfl | exact ⟨by omega, by omega⟩)) ?_)
    rintro s6 v ⟨h_s6, z5, rfl, hz_z5⟩
    rw [h_s6]
    rcases hz_z5 with ⟨c_z5, e_z5⟩ | ⟨c_z5, e_z5⟩
    · rw [e_z5]
      show xe none 113 19 [(0, .ref 0), (1, vi a), (2, vi b), (3, vi d), (4, vi e), (5, vi h), (6, vi j)] [vi 1] s0 0 0 _
      refine x_if_ne k113_19 (t := 26) rfl ⟨by decide, by decide⟩ (fun c7 => ?_) (fun c7 => by exfalso; omega)
      refine x_A k113_26 (fun _ => rfl) ?_
      refine x_A k113_27 (fun _ => rfl) ?_
      obtain ⟨z8, e_z8⟩ : ∃ z, z = s0 0 10 := ⟨_, rfl⟩
      have g_z8 : (0 : Int) ≤ s0 0 10 ∧ s0 0 10 ≤ 9 := hG0 0 10
      refine x_callV k113_28 (y := 125) (n := 1) (w0 := 0) (w1 := 1) (as := [vi d]) (rest := []) (by decide +kernel) (q := 0) (nq := 12) (kq := 3) ⟨by decide, rfl⟩ rfl rfl rfl rfl (xe_mono (C_X10_isKnownEdition_0 s0 hG0 d (by first | exact x_rb b_d rfl rfl | exact ⟨by omega, by omega⟩)) ?_)
      rintro s10 v ⟨h_s10, z9, rfl, hz_z9⟩
      rw [h_s10]
      rcases hz_z9 with ⟨c_z9, e_z9⟩ | ⟨c_z9, e_z9⟩
      · rw [e_z9]
        show xe none 113 31 [(0, .ref 0), (1, vi a), (2, vi b), (3, vi d), (4, vi e), (5, vi h), (6, vi j)] [vi 1] s0 0 0 _
        refine x_if_eq k113_31 (t := 44) rfl ⟨by decide, by decide⟩ (fun c11 => by exfalso; omega) (fun c11 => ?_)
        refine x_A k113_34 (fun _ => rfl) ?_
        refine x_A k113_36 (fun _ => rfl) ?_
        refine x_A k113_37 (fun _ => rfl) ?_
        refine x_callS k113_38 (y := 121) (n := 3) (w0 := 0) (w1 := 3) (as := [vi j, vi 0, vi 4]) (rest := []) (by decide +kernel) rfl rfl rfl rfl (xe_mono (C_X10_isWithin s0 hG0 j (by first | exact x_rb b_j rfl rfl | exact ⟨by omega, by omega⟩) 0 ⟨by decide, by decide⟩ 4 ⟨by decide, by decide⟩) ?_)
        rintro s13 v ⟨h_s13, z12, rfl, hz_z12⟩
        rw [h_s13]
        rcases hz_z12 with ⟨c_z12, e_z12⟩ | ⟨c_z12, e_z12⟩
        · rw [e_z12]
          show xe none 113 41 [(0, .ref 0), (1, vi a), (2, vi b), (3, vi d), (4, vi e), (5, vi h), (6, vi j)] [vi 1] s0 0 0 _
          refine x_if_ne k113_41 (t := 48) rfl ⟨by decide, by decide⟩ (fun c14 => ?_) (fun c14 => by exfalso; omega)
          refine x_A k113_48 (fun _ => rfl) ?_
          refine x_callS k113_50 (y := 122) (n := 1) (w0 := 0) (w1 := 1) (as := [vi e]) (rest := []) (by decide +kernel) rfl rfl rfl rfl (xe_mono (C_X10_isYear s0 hG0 e (by first | exact x_rb b_e rfl rfl | exact ⟨by omega, by omega⟩)) ?_)
          rintro s16 v ⟨h_s16, z15, rfl, hz_z15⟩
          rw [h_s16]
          rcases hz_z15 with ⟨c_z15, e_z15⟩ | ⟨c_z15, e_z15⟩
          · rw [e_z15]
            show xe none 113 53 [(0, .ref 0), (1, vi a), (2, vi b), (3, vi d), (4, vi e), (5, vi h), (6, vi j)] [vi 1] s0 0 0 _
            refine x_if_eq k113_53 (t := 71) rfl ⟨by decide, by decide⟩ (fun c17 => by exfalso; omega) (fun c17 => ?_)
            refine x_A k113_56 (fun _ => rfl) ?_
            refine x_callS k113_58 (y := 122) (n := 1) (w0 := 0) (w1 := 1) (as := [vi h]) (rest := []) (by decide +kernel) rfl rfl rfl rfl (xe_mono (C_X10_isYear s0 hG0 h (by first | exact x_rb b_h rfl rfl | exact ⟨by omega, by omega⟩)) ?_)
            rintro s19 v ⟨h_s19, z18, rfl, hz_z18⟩
            rw [h_s19]
            rcases hz_z18 with ⟨c_z18, e_z18⟩ | ⟨c_z18, e_z18⟩
            · rw [e_z18]
              show xe none 113 61 [(0, .ref 0), (1, vi a), (2, vi b), (3, vi d), (4, vi e), (5, vi h), (6, vi j)] [vi 1] s0 0 0 _
              refine x_if_eq k113_61 (t := 71) rfl ⟨by decide, by decide⟩ (fun c20 => by exfalso; omega) (fun c20 => ?_)
              refine x_A k113_64 (fun _ => rfl) ?_
              refine x_A k113_66 (fun _ => rfl) ?_
              refine x_ic_ge k113_68 (t := 75) rfl (by first | exact x_rb b_h rfl rfl | exact ⟨by omega, by omega⟩) (by first | exact x_rb b_e rfl rfl | exact ⟨by omega, by omega⟩) (fun c21 => ?_) (fun c21 => ?_)
              · skip
                refine x_A k113_75 (fun _ => rfl) ?_
                refine x_getR k113_76 (f := 9) rfl (q := 0) (n := 12) (kd := 3) ⟨by decide, rfl⟩ (q2 := 243) (by decide) rfl ?_
                refine x_A k113_79 (fun _ => rfl) ?_
                refine x_callV k113_80 (y := 76) (n := 1) (w0 := 0) (w1 := 1) (as := [vi d]) (rest := []) (by decide +kernel) (q := 243) (nq := 13) (kq := 13) ⟨by decide, rfl⟩ rfl rfl rfl rfl (xe_mono (E_X8_lookIn_243 s0 hG0 (hJ0.fl f0 (by decide)) d (by first | exact x_rb b_d rfl rfl | exact ⟨by omega, by omega⟩) (pR.fl f0 (by decide)) i0_VCj i0_VCl) ?_)
                rintro s23 v ⟨hG_s23, t_s23, rfl, xp_z22⟩
                have f_s23 : FL [3329, 3334, 3335, 3336, 3392, 3456, 3520, 3584, 3276, 3648, 3712, 3776, 3840, 3904, 3968, 3277, 4032] s0 s23 := f0.tr t_s23 (by decide)
                have q24 : s23 1 4 = z1 := (t_s23 1 4 (show 69 ∉ [3329, 3334, 3335, 3336, 3392, 3456, 3520, 3584, 3276, 3648, 3712, 3776, 3840, 3904, 3968, 3277, 4032] from by decide)).trans e_z1.symm
                have q25 : s23 0 10 = z8 := (t_s23 0 10 (show 11 ∉ [3329, 3334, 3335, 3336, 3392, 3456, 3520, 3584, 3276, 3648, 3712, 3776, 3840, 3904, 3968, 3277, 4032] from by decide)).trans e_z8.symm
                obtain ⟨z26, e_z26⟩ : ∃ z, z = s23 243 11 := ⟨_, rfl⟩
                have g_z26 : (0 : Int) ≤ s23 243 11 ∧ s23 243 11 ≤ 1 := hG_s23 243 11
                obtain ⟨z27, e_z27⟩ : ∃ z, z = s23 243 12 := ⟨_, rfl⟩
                have g_z27 : (-1) ≤ s23 243 12 ∧ s23 243 12 ≤ 9 := hG_s23 243 12
                show xe none 113 83 [(0, .ref 0), (1, vi a), (2, vi b), (3, vi d), (4, vi e), (5, vi h), (6, vi j)] [] s23 0 0 _
                have VCj_k : VCj s23 := VCj.judge hG0 t_s23 (by decide) xp_z22.1
                have VCl_k : VCl s23 := VCl.look hG0 t_s23 (by decide) xp_z22.2.1 xp_z22.2.2.1 xp_z22.2.2.2
                refine x_A k113_83 (fun _ => rfl) ?_
                refine x_getR k113_84 (f := 1) rfl (q := 0) (n := 12) (kd := 3) ⟨by decide, rfl⟩ (q2 := 46) (by decide) rfl ?_
                refine x_A k113_87 (fun _ => rfl) ?_
                refine x_A k113_89 (fun _ => rfl) ?_
                refine x_callV k113_91 (y := 32) (n := 2) (w0 := 0) (w1 := 2) (as := [vi e, vi h]) (rest := []) (by decide +kernel) (q := 46) (nq := 4) (kq := 5) ⟨by decide, rfl⟩ rfl rfl rfl rfl (xe_mono (C_X3_ofYears_46 s23 hG_s23 e (by first | exact x_rb b_e rfl rfl | exact ⟨by omega, by omega⟩) h (by first | exact x_rb b_h rfl rfl | exact ⟨by omega, by omega⟩)) ?_)
                rintro s29 v ⟨-, t_s29, z28, rfl, b_z28⟩
                rw [t_s29.nil]
                show xe none 113 94 [(0, .ref 0), (1, vi a), (2, vi b), (3, vi d), (4, vi e), (5, vi h), (6, vi j)] [vj z28] s23 0 0 _
                refine x_lstore k113_94 (ls' := [(7, vj z28), (0, .ref 0), (1, vi a), (2, vi b), (3, vi d), (4, vi e), (5, vi h), (6, vi j)]) (by decide) rfl ?_
                refine x_A k113_96 (fun _ => rfl) ?_
                refine x_getR k113_97 (f := 9) rfl (q := 0) (n := 12) (kd := 3) ⟨by decide, rfl⟩ (q2 := 243) (by decide) rfl ?_
                refine x_A k113_100 (fun _ => rfl) ?_
                refine x_callV k113_101 (y := 79) (n := 1) (w0 := 0) (w1 := 1) (as := [vi a]) (rest := []) (by decide +kernel) (q := 243) (nq := 13) (kq := 13) ⟨by decide, rfl⟩ rfl rfl rfl rfl (xe_mono (C_X8_showing_243 s23 hG_s23 a (by first | exact x_rb b_a rfl rfl | exact ⟨by omega, by omega⟩)) ?_)
                rintro s31 v ⟨-, t_s31, z30, rfl, b_z30⟩
                rw [t_s31.nil]
                show xe none 113 104 [(7, vj z28), (0, .ref 0), (1, vi a), (2, vi b), (3, vi d), (4, vi e), (5, vi h), (6, vi j)] [vj z30] s23 0 0 _
                refine x_A k113_104 (fun _ => rfl) ?_
                refine x_land_any k113_106 (fun z32 b_z32 => ?_)
                refine x_lstore k113_107 (ls' := [(9, vj z32), (7, vj z28), (0, .ref 0), (1, vi a), (2, vi b), (3, vi d), (4, vi e), (5, vi h), (6, vi j)]) (by decide) rfl ?_
                refine x_A k113_109 (fun _ => rfl) ?_
                refine x_getR k113_110 (f := 9) rfl (q := 0) (n := 12) (kd := 3) ⟨by decide, rfl⟩ (q2 := 243) (by decide) rfl ?_
                refine x_A k113_113 (fun _ => rfl) ?_
                refine x_callV k113_114 (y := 79) (n := 1) (w0 := 0) (w1 := 1) (as := [vi b]) (rest := []) (by decide +kernel) (q := 243) (nq := 13) (kq := 13) ⟨by decide, rfl⟩ rfl rfl rfl rfl (xe_mono (C_X8_showing_243 s23 hG_s23 b (by first | exact x_rb b_b rfl rfl | exact ⟨by omega, by omega⟩)) ?_)
                rintro s34 v ⟨-, t_s34, z33, rfl, b_z33⟩
                rw [t_s34.nil]
                show xe none 113 117 [(9, vj z32), (7, vj z28), (0, .ref 0), (1, vi a), (2, vi b), (3, vi d), (4, vi e), (5, vi h), (6, vi j)] [vj z33] s23 0 0 _
                refine x_A k113_117 (fun _ => rfl) ?_
                refine x_land_any k113_119 (fun z35 b_z35 => ?_)
                refine x_lstore k113_120 (ls' := [(11, vj z35), (9, vj z32), (7, vj z28), (0, .ref 0), (1, vi a), (2, vi b), (3, vi d), (4, vi e), (5, vi h), (6, vi j)]) (by decide) rfl ?_
                refine x_A k113_122 (fun _ => rfl) ?_
                have c36 : j = 0 ∨ j = 1 ∨ j = 2 ∨ j = 3 ∨ ¬ (0 ≤ j ∧ j ≤ 3) := by omega
                rcases c36 with c36 | c36 | c36 | c36 | c36
                · rw [c36]
                  refine x_B k113_124 rfl (fun _ => rfl) (fun _ => rfl) (fun _ _ => rfl) ?_
                  show xe none 113 156 [(11, vj z35), (9, vj z32), (7, vj z28), (0, .ref 0), (1, vi a), (2, vi b), (3, vi d), (4, vi e), (5, vi h), (6, vi 0)] [] s23 0 0 _
                  refine x_A k113_156 (fun _ => rfl) ?_
                  refine x_callS k113_158 (y := 219) (n := 1) (w0 := 0) (w1 := 2) (as := [vj z32]) (rest := []) (by decide +kernel) rfl rfl rfl rfl (xe_mono (E_J13_bitCount_95d88 s23 hG_s23 z32 b_z32) ?_)
                  rintro s38 v ⟨-, t_s38, z37, rfl, g_z37, xp_z37⟩
                  rw [t_s38.nil]
                  try rw [t_s38.nil] at xp_z37
                  show xe none 113 161 [(11, vj z35), (9, vj z32), (7, vj z28), (0, .ref 0), (1, vi a), (2, vi b), (3, vi d), (4, vi e), (5, vi h), (6, vi 0)] [vi z37] s23 0 0 _
                  exact x_iret k113_161 rfl ⟨hG_s23, f_s23, z37, rfl, (by first | exact x_rbe e_z37 g_z37 rfl rfl | exact x_rb g_z37 rfl rfl | exact ⟨by omega, by omega⟩), VCj_k, VCl_k⟩
                · rw [c36]
                  refine x_B k113_124 rfl (fun _ => rfl) (fun _ => rfl) (fun _ _ => rfl) ?_
                  show xe none 113 162 [(11, vj z35), (9, vj z32), (7, vj z28), (0, .ref 0), (1, vi a), (2, vi b), (3, vi d), (4, vi e), (5, vi h), (6, vi 1)] [] s23 0 0 _
                  refine x_A k113_162 (fun _ => rfl) ?_
                  refine x_callS k113_164 (y := 219) (n := 1) (w0 := 0) (w1 := 2) (as := [vj z35]) (rest := []) (by decide +kernel) rfl rfl rfl rfl (xe_mono (E_J13_bitCount_95d88 s23 hG_s23 z35 b_z35) ?_)
                  rintro s40 v ⟨-, t_s40, z39, rfl, g_z39, xp_z39⟩
                  rw [t_s40.nil]
                  try rw [t_s40.nil] at xp_z39
                  show xe none 113 167 [(11, vj z35), (9, vj z32), (7, vj z28), (0, .ref 0), (1, vi a), (2, vi b), (3, vi d), (4, vi e), (5, vi h), (6, vi 1)] [vi z39] s23 0 0 _
                  exact x_iret k113_167 rfl ⟨hG_s23, f_s23, z39, rfl, (by first | exact x_rbe e_z39 g_z39 rfl rfl | exact x_rb g_z39 rfl rfl | exact ⟨by omega, by omega⟩), VCj_k, VCl_k⟩
                · rw [c36]
                  refine x_B k113_124 rfl (fun _ => rfl) (fun _ => rfl) (fun _ _ => rfl) ?_
                  show xe none 113 168 [(11, vj z35), (9, vj z32), (7, vj z28), (0, .ref 0), (1, vi a), (2, vi b), (3, vi d), (4, vi e), (5, vi h), (6, vi 2)] [] s23 0 0 _
                  refine x_A k113_168 (fun _ => rfl) ?_
                  refine x_A k113_170 (fun _ => rfl) ?_
                  refine x_land_any k113_172 (fun z41 b_z41 => ?_)
                  refine x_callS k113_173 (y := 219) (n := 1) (w0 := 0) (w1 := 2) (as := [vj z41]) (rest := []) (by decide +kernel) rfl rfl rfl rfl (xe_mono (E_J13_bitCount_95d88 s23 hG_s23 z41 b_z41) ?_)
                  rintro s43 v ⟨-, t_s43, z42, rfl, g_z42, xp_z42⟩
                  rw [t_s43.nil]
                  try rw [t_s43.nil] at xp_z42
                  show xe none 113 176 [(11, vj z35), (9, vj z32), (7, vj z28), (0, .ref 0), (1, vi a), (2, vi b), (3, vi d), (4, vi e), (5, vi h), (6, vi 2)] [vi z42] s23 0 0 _
                  exact x_iret k113_176 rfl ⟨hG_s23, f_s23, z42, rfl, (by first | exact x_rbe e_z42 g_z42 rfl rfl | exact x_rb g_z42 rfl rfl | exact ⟨by omega, by omega⟩), VCj_k, VCl_k⟩
                · rw [c36]
                  refine x_B k113_124 rfl (fun _ => rfl) (fun _ => rfl) (fun _ _ => rfl) ?_
                  show xe none 113 177 [(11, vj z35), (9, vj z32), (7, vj z28), (0, .ref 0), (1, vi a), (2, vi b), (3, vi d), (4, vi e), (5, vi h), (6, vi 3)] [] s23 0 0 _
                  refine x_A k113_177 (fun _ => rfl) ?_
                  refine x_callS k113_179 (y := 219) (n := 1) (w0 := 0) (w1 := 2) (as := [vj z28]) (rest := []) (by decide +kernel) rfl rfl rfl rfl (xe_mono (E_J13_bitCount_95d88 s23 hG_s23 z28 b_z28) ?_)
                  rintro s45 v ⟨-, t_s45, z44, rfl, g_z44, xp_z44⟩
                  rw [t_s45.nil]
                  try rw [t_s45.nil] at xp_z44
                  show xe none 113 182 [(11, vj z35), (9, vj z32), (7, vj z28), (0, .ref 0), (1, vi a), (2, vi b), (3, vi d), (4, vi e), (5, vi h), (6, vi 3)] [vi z44] s23 0 0 _
                  exact x_iret k113_182 rfl ⟨hG_s23, f_s23, z44, rfl, (by first | exact x_rbe e_z44 g_z44 rfl rfl | exact x_rb g_z44 rfl rfl | exact ⟨by omega, by omega⟩), VCj_k, VCl_k⟩
                · refine x_tabD k113_124 ⟨by omega, by omega⟩ c36 (t0 := 183) rfl ?_
                  refine x_A k113_183 (fun _ => rfl) ?_
                  refine x_A k113_185 (fun _ => rfl) ?_
                  refine x_A k113_187 (fun _ => rfl) ?_
                  refine x_callS k113_189 (y := 219) (n := 1) (w0 := 4) (w1 := 2) (as := [vj z28]) (rest := [vj z35, vj z32]) (by decide +kernel) rfl rfl rfl rfl (xe_mono (E_J13_bitCount_95d88 s23 hG_s23 z28 b_z28) ?_)
                  rintro s47 v ⟨-, t_s47, z46, rfl, g_z46, xp_z46⟩
                  rw [t_s47.nil]
                  try rw [t_s47.nil] at xp_z46
                  show xe none 113 192 [(11, vj z35), (9, vj z32), (7, vj z28), (0, .ref 0), (1, vi a), (2, vi b), (3, vi d), (4, vi e), (5, vi h), (6, vi j)] [vi z46, vj z35, vj z32] s23 0 0 _
                  refine x_callS k113_192 (y := 130) (n := 3) (w0 := 0) (w1 := 5) (as := [vj z32, vj z35, vi z46]) (rest := []) (by decide +kernel) rfl rfl rfl rfl (xe_mono (C_X10_isBeyondChance s23 hG_s23 z32 b_z32 z35 b_z35 z46 (by first | exact x_rbe e_z46 g_z46 rfl rfl | exact x_rb g_z46 rfl rfl | exact ⟨by omega, by omega⟩)) ?_)
                  rintro s49 v ⟨-, t_s49, z48, rfl, g_z48⟩
                  rw [t_s49.nil]
                  show xe none 113 195 [(11, vj z35), (9, vj z32), (7, vj z28), (0, .ref 0), (1, vi a), (2, vi b), (3, vi d), (4, vi e), (5, vi h), (6, vi j)] [vi z48] s23 0 0 _
                  refine x_callS k113_195 (y := 126) (n := 1) (w0 := 0) (w1 := 1) (as := [vi z48]) (rest := []) (by decide +kernel) rfl rfl rfl rfl (xe_mono (C_X10_oneIf s23 hG_s23 z48 (by first | exact x_rbe e_z48 g_z48 rfl rfl | exact x_rb g_z48 rfl rfl | exact ⟨by omega, by omega⟩)) ?_)
                  rintro s51 v ⟨-, t_s51, z50, rfl, g_z50⟩
                  rw [t_s51.nil]
                  show xe none 113 198 [(11, vj z35), (9, vj z32), (7, vj z28), (0, .ref 0), (1, vi a), (2, vi b), (3, vi d), (4, vi e), (5, vi h), (6, vi j)] [vi z50] s23 0 0 _
                  exact x_iret k113_198 rfl ⟨hG_s23, f_s23, z50, rfl, (by first | exact x_rbe e_z50 g_z50 rfl rfl | exact x_rb g_z50 rfl rfl | exact ⟨by omega, by omega⟩), VCj_k, VCl_k⟩
              · skip
                refine x_sipush k113_71 (by decide +kernel) ?_
                exact x_iret k113_74 rfl ⟨hG0, f0, (-1002), rfl, ⟨by decide, by decide⟩, i0_VCj, i0_VCl⟩
            · rw [e_z18]
              show xe none 113 61 [(0, .ref 0), (1, vi a), (2, vi b), (3, vi d), (4, vi e), (5, vi h), (6, vi j)] [vi 0] s0 0 0 _
              refine x_if_eq k113_61 (t := 71) rfl ⟨by decide, by decide⟩ (fun c52 => ?_) (fun c52 => by exfalso; omega)
              refine x_sipush k113_71 (by decide +kernel) ?_
              exact x_iret k113_74 rfl ⟨hG0, f0, (-1002), rfl, ⟨by decide, by decide⟩, i0_VCj, i0_VCl⟩
          · rw [e_z15]
            show xe none 113 53 [(0, .ref 0), (1, vi a), (2, vi b), (3, vi d), (4, vi e), (5, vi h), (6, vi j)] [vi 0] s0 0 0 _
            refine x_if_eq k113_53 (t := 71) rfl ⟨by decide, by decide⟩ (fun c53 => ?_) (fun c53 => by exfalso; omega)
            refine x_sipush k113_71 (by decide +kernel) ?_
            exact x_iret k113_74 rfl ⟨hG0, f0, (-1002), rfl, ⟨by decide, by decide⟩, i0_VCj, i0_VCl⟩
        · rw [e_z12]
          show xe none 113 41 [(0, .ref 0), (1, vi a), (2, vi b), (3, vi d), (4, vi e), (5, vi h), (6, vi j)] [vi 0] s0 0 0 _
          refine x_if_ne k113_41 (t := 48) rfl ⟨by decide, by decide⟩ (fun c54 => by exfalso; omega) (fun c54 => ?_)
          refine x_sipush k113_44 (by decide +kernel) ?_
          exact x_iret k113_47 rfl ⟨hG0, f0, (-1002), rfl, ⟨by decide, by decide⟩, i0_VCj, i0_VCl⟩
      · rw [e_z9]
        show xe none 113 31 [(0, .ref 0), (1, vi a), (2, vi b), (3, vi d), (4, vi e), (5, vi h), (6, vi j)] [vi 0] s0 0 0 _
        refine x_if_eq k113_31 (t := 44) rfl ⟨by decide, by decide⟩ (fun c55 => ?_) (fun c55 => by exfalso; omega)
        refine x_sipush k113_44 (by decide +kernel) ?_
        exact x_iret k113_47 rfl ⟨hG0, f0, (-1002), rfl, ⟨by decide, by decide⟩, i0_VCj, i0_VCl⟩
    · rw [e_z5]
      show xe none 113 19 [(0, .ref 0), (1, vi a), (2, vi b), (3, vi d), (4, vi e), (5, vi h), (6, vi j)] [vi 0] s0 0 0 _
      refine x_if_ne k113_19 (t := 26) rfl ⟨by decide, by decide⟩ (fun c56 => by exfalso; omega) (fun c56 => ?_)
      refine x_sipush k113_22 (by decide +kernel) ?_
      exact x_iret k113_25 rfl ⟨hG0, f0, (-1001), rfl, ⟨by decide, by decide⟩, i0_VCj, i0_VCl⟩
  · rw [e_z2]
    show xe none 113 8 [(0, .ref 0), (1, vi a), (2, vi b), (3, vi d), (4, vi e), (5, vi h), (6, vi j)] [vi 0] s0 0 0 _
    refine x_if_eq k113_8 (t := 22) rfl ⟨by decide, by decide⟩ (fun c57 => ?_) (fun c57 => by exfalso; omega)
    refine x_sipush k113_22 (by decide +kernel) ?_
    exact x_iret k113_25 rfl ⟨hG0, f0, (-1001), rfl, ⟨by decide, by decide⟩, i0_VCj, i0_VCl⟩
set_option maxHeartbeats 8000000 in
theorem V_X10_along_0 (s0 : xS) (hG0 : GI s0) (hJ0 : J s0) (a : Int) (b_a : (-2147483648) ≤ a ∧ a ≤ 2147483647) (b : Int) (b_b : (-2147483648) ≤ b ∧ b ≤ 2147483647) (d : Int) (b_d : (-2147483648) ≤ d ∧ d ≤ 2147483647) (pR : R1 s0) (i0_VCj : VCj s0) (i0_VCl : VCl s0) : xe none 114 0 (lv_args 0 [.ref 0, vi a, vi b, vi d]) [] s0 0 0 (fun s' v => GI s' ∧ FL [3329, 3334, 3335, 3336, 3392, 3456, 3520, 3584, 3276, 3648, 3712, 3776, 3840, 3904, 3968, 3277, 4032] s0 s' ∧ ∃ z, v = some (vi z) ∧ ((-1004) ≤ z ∧ z ≤ 127) ∧ VCj s' ∧ VCl s') := by
  have f0 : FL [3329, 3334, 3335, 3336, 3392, 3456, 3520, 3584, 3276, 3648, 3712, 3776, 3840, 3904, 3968, 3277, 4032] s0 s0 := FL.rf
  show xe none 114 0 [(0, .ref 0), (1, vi a), (2, vi b), (3, vi d)] [] s0 0 0 _
  refine x_A k114_0 (fun _ => rfl) ?_
  refine x_getR k114_1 (f := 0) rfl (q := 0) (n := 12) (kd := 3) ⟨by decide, rfl⟩ (q2 := 1) (by decide) rfl ?_
  refine x_A k114_4 (fun _ => rfl) ?_
  obtain ⟨z1, e_z1⟩ : ∃ z, z = s0 1 4 := ⟨_, rfl⟩
  have g_z1 : (1 : Int) ≤ s0 1 4 ∧ s0 1 4 ≤ 40 := hG0 1 4
  refine x_callV k114_5 (y := 59) (n := 1) (w0 := 0) (w1 := 1) (as := [vi a]) (rest := []) (by decide +kernel) (q := 1) (nq := 5) (kq := 4) ⟨by decide, rfl⟩ rfl rfl rfl rfl (xe_mono (C_X7_has_1 s0 hG0 a (by first | exact x_rb b_a rfl rfl | exact ⟨by omega, by omega⟩)) ?_)
  rintro s3 v ⟨h_s3, z2, rfl, hz_z2⟩
  rw [h_s3]
  rcases hz_z2 with ⟨c_z2, e_z2⟩ | ⟨c_z2, e_z2⟩
  · rw [e_z2]
    show xe none 114 8 [(0, .ref 0), (1, vi a), (2, vi b), (3, vi d)] [vi 1] s0 0 0 _
    refine x_if_ne k114_8 (t := 15) rfl ⟨by decide, by decide⟩ (fun c4 => ?_) (fun c4 => by exfalso; omega)
    refine x_A k114_15 (fun _ => rfl) ?_
    refine x_A k114_16 (fun _ => rfl) ?_
    obtain ⟨z5, e_z5⟩ : ∃ z, z = s0 0 10 := ⟨_, rfl⟩
    have g_z5 : (0 : Int) ≤ s0 0 10 ∧ s0 0 10 ≤ 9 := hG0 0 10
    refine x_callV k114_17 (y := 125) (n := 1) (w0 := 0) (w1 := 1) (as := [vi b]) (rest := []) (by decide +kernel) (q := 0) (nq := 12) (kq := 3) ⟨by decide, rfl⟩ rfl rfl rfl rfl (xe_mono (C_X10_isKnownEdition_0 s0 hG0 b (by first | exact x_rb b_b rfl rfl | exact ⟨by omega, by omega⟩)) ?_)
    rintro s7 v ⟨h_s7, z6, rfl, hz_z6⟩
    rw [h_s7]
    rcases hz_z6 with ⟨c_z6, e_z6⟩ | ⟨c_z6, e_z6⟩
    · rw [e_z6]
      show xe none 114 20 [(0, .ref 0), (1, vi a), (2, vi b), (3, vi d)] [vi 1] s0 0 0 _
      refine x_if_ne k114_20 (t := 27) rfl ⟨by decide, by decide⟩ (fun c8 => ?_) (fun c8 => by exfalso; omega)
      refine x_A k114_27 (fun _ => rfl) ?_
      refine x_getR k114_28 (f := 9) rfl (q := 0) (n := 12) (kd := 3) ⟨by decide, rfl⟩ (q2 := 243) (by decide) rfl ?_
      refine x_A k114_31 (fun _ => rfl) ?_
      refine x_callV k114_32 (y := 76) (n := 1) (w0 := 0) (w1 := 1) (as := [vi b]) (rest := []) (by decide +kernel) (q := 243) (nq := 13) (kq := 13) ⟨by decide, rfl⟩ rfl rfl rfl rfl (xe_mono (E_X8_lookIn_243 s0 hG0 (hJ0.fl f0 (by decide)) b (by first | exact x_rb b_b rfl rfl | exact ⟨by omega, by omega⟩) (pR.fl f0 (by decide)) i0_VCj i0_VCl) ?_)
      rintro s10 v ⟨hG_s10, t_s10, rfl, xp_z9⟩
      have f_s10 : FL [3329, 3334, 3335, 3336, 3392, 3456, 3520, 3584, 3276, 3648, 3712, 3776, 3840, 3904, 3968, 3277, 4032] s0 s10 := f0.tr t_s10 (by decide)
      have q11 : s10 1 4 = z1 := (t_s10 1 4 (show 69 ∉ [3329, 3334, 3335, 3336, 3392, 3456, 3520, 3584, 3276, 3648, 3712, 3776, 3840, 3904, 3968, 3277, 4032] from by decide)).trans e_z1.symm
      have q12 : s10 0 10 = z5 := (t_s10 0 10 (show 11 ∉ [3329, 3334, 3335, 3336, 3392, 3456, 3520, 3584, 3276, 3648, 3712, 3776, 3840, 3904, 3968, 3277, 4032] from by decide)).trans e_z5.symm
      obtain ⟨z13, e_z13⟩ : ∃ z, z = s10 243 11 := ⟨_, rfl⟩
      have g_z13 : (0 : Int) ≤ s10 243 11 ∧ s10 243 11 ≤ 1 := hG_s10 243 11
      obtain ⟨z14, e_z14⟩ : ∃ z, z = s10 243 12 := ⟨_, rfl⟩
      have g_z14 : (-1) ≤ s10 243 12 ∧ s10 243 12 ≤ 9 := hG_s10 243 12
      show xe none 114 35 [(0, .ref 0), (1, vi a), (2, vi b), (3, vi d)] [] s10 0 0 _
      have VCj_k : VCj s10 := VCj.judge hG0 t_s10 (by decide) xp_z9.1
      have VCl_k : VCl s10 := VCl.look hG0 t_s10 (by decide) xp_z9.2.1 xp_z9.2.2.1 xp_z9.2.2.2
      refine x_A k114_35 (fun _ => rfl) ?_
      refine x_A k114_36 (fun _ => rfl) ?_
      refine x_A k114_37 (fun _ => rfl) ?_
      refine x_callV k114_38 (y := 132) (n := 2) (w0 := 0) (w1 := 2) (as := [vi a, vi b]) (rest := []) (by decide +kernel) (q := 0) (nq := 12) (kq := 3) ⟨by decide, rfl⟩ rfl rfl rfl rfl (xe_mono (C_X10_goingAlong_0 s10 hG_s10 a (by first | exact x_rb b_a rfl rfl | exact ⟨by omega, by omega⟩) b (by first | exact x_rb b_b rfl rfl | exact ⟨by omega, by omega⟩)) ?_)
      rintro s16 v ⟨-, t_s16, z15, rfl, b_z15⟩
      rw [t_s16.nil]
      show xe none 114 41 [(0, .ref 0), (1, vi a), (2, vi b), (3, vi d)] [vj z15] s10 0 0 _
      refine x_A k114_41 (fun _ => rfl) ?_
      refine x_callS k114_42 (y := 127) (n := 2) (w0 := 0) (w1 := 3) (as := [vj z15, vi d]) (rest := []) (by decide +kernel) rfl rfl rfl rfl (xe_mono (C_X10_pick s10 hG_s10 z15 b_z15 d (by first | exact x_rb b_d rfl rfl | exact ⟨by omega, by omega⟩)) ?_)
      rintro s18 v ⟨-, t_s18, z17, rfl, g_z17⟩
      rw [t_s18.nil]
      show xe none 114 45 [(0, .ref 0), (1, vi a), (2, vi b), (3, vi d)] [vi z17] s10 0 0 _
      exact x_iret k114_45 rfl ⟨hG_s10, f_s10, z17, rfl, (by first | exact x_rbe e_z17 g_z17 rfl rfl | exact x_rb g_z17 rfl rfl | exact ⟨by omega, by omega⟩), VCj_k, VCl_k⟩
    · rw [e_z6]
      show xe none 114 20 [(0, .ref 0), (1, vi a), (2, vi b), (3, vi d)] [vi 0] s0 0 0 _
      refine x_if_ne k114_20 (t := 27) rfl ⟨by decide, by decide⟩ (fun c19 => by exfalso; omega) (fun c19 => ?_)
      refine x_sipush k114_23 (by decide +kernel) ?_
      exact x_iret k114_26 rfl ⟨hG0, f0, (-1002), rfl, ⟨by decide, by decide⟩, i0_VCj, i0_VCl⟩
  · rw [e_z2]
    show xe none 114 8 [(0, .ref 0), (1, vi a), (2, vi b), (3, vi d)] [vi 0] s0 0 0 _
    refine x_if_ne k114_8 (t := 15) rfl ⟨by decide, by decide⟩ (fun c20 => by exfalso; omega) (fun c20 => ?_)
    refine x_sipush k114_11 (by decide +kernel) ?_
    exact x_iret k114_14 rfl ⟨hG0, f0, (-1001), rfl, ⟨by decide, by decide⟩, i0_VCj, i0_VCl⟩
