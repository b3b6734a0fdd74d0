set_option maxHeartbeats 8000000 in
theorem V_X10_means_0 (s0 : xS) (hG0 : GI s0) (hJ0 : J s0) (a : Int) (b_a : (-2147483648) ≤ a ∧ a ≤ 2147483647) (b : Int) (b_b : (-2147483648) ≤ b ∧ b ≤ 2147483647) (d : Int) (b_d : (-2147483648) ≤ d ∧ d ≤ 2147483647) (pR : R1 s0) (i0_VCj : VCj s0) : xe none 101 0 (lv_args 0 [.ref 0, vi a, vi b, vi d]) [] s0 0 0 (fun s' v => GI s' ∧ FL [3329, 3334, 3335, 3336, 3392, 3456, 3520, 3584, 3276, 3648, 3712, 3776, 3840, 3904, 3968, 3277, 4032, 1921, 1926, 1927, 1928, 1984, 2048, 2112, 2176] s0 s' ∧ ∃ z, v = some (vi z) ∧ ((-1004) ≤ z ∧ z ≤ 127) ∧ VCj s') := by
  have f0 : FL [3329, 3334, 3335, 3336, 3392, 3456, 3520, 3584, 3276, 3648, 3712, 3776, 3840, 3904, 3968, 3277, 4032, 1921, 1926, 1927, 1928, 1984, 2048, 2112, 2176] s0 s0 := FL.rf
  show xe none 101 0 [(0, .ref 0), (1, vi a), (2, vi b), (3, vi d)] [] s0 0 0 _
  refine x_A k101_0 (fun _ => rfl) ?_
  refine x_getR k101_1 (f := 2) rfl (q := 0) (n := 12) (kd := 3) ⟨by decide, rfl⟩ (q2 := 50) (by decide) rfl ?_
  refine x_A k101_4 (fun _ => rfl) ?_
  obtain ⟨z1, e_z1⟩ : ∃ z, z = s0 50 6 := ⟨_, rfl⟩
  have g_z1 : (0 : Int) ≤ s0 50 6 ∧ s0 50 6 ≤ 120 := hG0 50 6
  refine x_callV k101_5 (y := 24) (n := 1) (w0 := 0) (w1 := 1) (as := [vi a]) (rest := []) (by decide +kernel) (q := 50) (nq := 7) (kq := 6) ⟨by decide, rfl⟩ rfl rfl rfl rfl (xe_mono (C_X2_has_50 s0 hG0 a (by first | exact x_rb b_a rfl rfl | exact ⟨by omega, by omega⟩)) ?_)
  rintro s3 v ⟨h_s3, z2, rfl, hz_z2⟩
  rw [h_s3]
  rcases hz_z2 with ⟨c_z2, e_z2⟩ | ⟨c_z2, e_z2⟩
  · rw [e_z2]
    show xe none 101 8 [(0, .ref 0), (1, vi a), (2, vi b), (3, vi d)] [vi 1] s0 0 0 _
    refine x_if_ne k101_8 (t := 15) rfl ⟨by decide, by decide⟩ (fun c4 => ?_) (fun c4 => by exfalso; omega)
    refine x_A k101_15 (fun _ => rfl) ?_
    refine x_A k101_16 (fun _ => rfl) ?_
    obtain ⟨z5, e_z5⟩ : ∃ z, z = s0 0 10 := ⟨_, rfl⟩
    have g_z5 : (0 : Int) ≤ s0 0 10 ∧ s0 0 10 ≤ 9 := hG0 0 10
    refine x_callV k101_17 (y := 125) (n := 1) (w0 := 0) (w1 := 1) (as := [vi b]) (rest := []) (by decide +kernel) (q := 0) (nq := 12) (kq := 3) ⟨by decide, rfl⟩ rfl rfl rfl rfl (xe_mono (C_X10_isKnownEdition_0 s0 hG0 b (by first | exact x_rb b_b rfl rfl | exact ⟨by omega, by omega⟩)) ?_)
    rintro s7 v ⟨h_s7, z6, rfl, hz_z6⟩
    rw [h_s7]
    rcases hz_z6 with ⟨c_z6, e_z6⟩ | ⟨c_z6, e_z6⟩
    · rw [e_z6]
      show xe none 101 20 [(0, .ref 0), (1, vi a), (2, vi b), (3, vi d)] [vi 1] s0 0 0 _
      refine x_if_eq k101_20 (t := 32) rfl ⟨by decide, by decide⟩ (fun c8 => by exfalso; omega) (fun c8 => ?_)
      refine x_A k101_23 (fun _ => rfl) ?_
      refine x_A k101_24 (fun _ => rfl) ?_
      refine x_A k101_25 (fun _ => rfl) ?_
      refine x_callS k101_26 (y := 121) (n := 3) (w0 := 0) (w1 := 3) (as := [vi d, vi 0, vi 2]) (rest := []) (by decide +kernel) rfl rfl rfl rfl (xe_mono (C_X10_isWithin s0 hG0 d (by first | exact x_rb b_d rfl rfl | exact ⟨by omega, by omega⟩) 0 ⟨by decide, by decide⟩ 2 ⟨by decide, by decide⟩) ?_)
      rintro s10 v ⟨h_s10, z9, rfl, hz_z9⟩
      rw [h_s10]
      rcases hz_z9 with ⟨c_z9, e_z9⟩ | ⟨c_z9, e_z9⟩
      · rw [e_z9]
        show xe none 101 29 [(0, .ref 0), (1, vi a), (2, vi b), (3, vi d)] [vi 1] s0 0 0 _
        refine x_if_ne k101_29 (t := 36) rfl ⟨by decide, by decide⟩ (fun c11 => ?_) (fun c11 => by exfalso; omega)
        refine x_A k101_36 (fun _ => rfl) ?_
        refine x_getR k101_37 (f := 2) rfl (q := 0) (n := 12) (kd := 3) ⟨by decide, rfl⟩ (q2 := 50) (by decide) rfl ?_
        refine x_getR k101_40 (f := 4) rfl (q := 50) (n := 7) (kd := 6) ⟨by decide, rfl⟩ (q2 := 55) (by decide) rfl ?_
        refine x_A k101_43 (fun _ => rfl) ?_
        refine x_iald k101_44 (q := 55) (n := 120) ⟨by decide, rfl⟩ (by decide) (by first | exact x_rbl b_a rfl rfl | exact ⟨by omega, by omega⟩) ?_
        refine x_top (fun z12 e_z12 => ?_)
        have g_z12 : (0 : Int) ≤ s0 55 a.toNat ∧ s0 55 a.toNat ≤ 9 := hG0 55 a.toNat
        refine x_A k101_45 (fun _ => rfl) ?_
        refine x_ic_le k101_46 (t := 53) rfl (by first | exact x_rbe e_z12 g_z12 rfl rfl | exact x_rb g_z12 rfl rfl | exact ⟨by omega, by omega⟩) (by first | exact x_rb b_b rfl rfl | exact ⟨by omega, by omega⟩) (fun c13 => ?_) (fun c13 => ?_)
        · skip
          refine x_A k101_53 (fun _ => rfl) ?_
          refine x_getR k101_54 (f := 9) rfl (q := 0) (n := 12) (kd := 3) ⟨by decide, rfl⟩ (q2 := 243) (by decide) rfl ?_
          refine x_A k101_57 (fun _ => rfl) ?_
          refine x_callV k101_58 (y := 76) (n := 1) (w0 := 0) (w1 := 1) (as := [vi b]) (rest := []) (by decide +kernel) (q := 243) (nq := 13) (kq := 13) ⟨by decide, rfl⟩ rfl rfl rfl rfl (xe_mono (V_X8_lookIn_243 s0 hG0 (hJ0.fl f0 (by decide)) b (by first | exact x_rb b_b rfl rfl | exact ⟨by omega, by omega⟩) (pR.fl f0 (by decide)) i0_VCj) ?_)
          rintro s15 v ⟨hG_s15, t_s15, rfl, VCj_s15⟩
          have f_s15 : FL [3329, 3334, 3335, 3336, 3392, 3456, 3520, 3584, 3276, 3648, 3712, 3776, 3840, 3904, 3968, 3277, 4032, 1921, 1926, 1927, 1928, 1984, 2048, 2112, 2176] s0 s15 := f0.tr t_s15 (by decide)
          have q16 : s15 50 6 = z1 := (t_s15 50 6 (show 711 ∉ [3329, 3334, 3335, 3336, 3392, 3456, 3520, 3584, 3276, 3648, 3712, 3776, 3840, 3904, 3968, 3277, 4032] from by decide)).trans e_z1.symm
          have q17 : s15 0 10 = z5 := (t_s15 0 10 (show 11 ∉ [3329, 3334, 3335, 3336, 3392, 3456, 3520, 3584, 3276, 3648, 3712, 3776, 3840, 3904, 3968, 3277, 4032] from by decide)).trans e_z5.symm
          have q18 : s15 55 a.toNat = z12 := (t_s15 55 a.toNat (show 1024 ∉ [3329, 3334, 3335, 3336, 3392, 3456, 3520, 3584, 3276, 3648, 3712, 3776, 3840, 3904, 3968, 3277, 4032] from by decide)).trans e_z12.symm
          show xe none 101 61 [(0, .ref 0), (1, vi a), (2, vi b), (3, vi d)] [] s15 0 0 _
          refine x_A k101_61 (fun _ => rfl) ?_
          have c19 : d = 0 ∨ d = 1 ∨ d = 2 := by omega
          rcases c19 with c19 | c19 | c19
          · rw [c19]
            refine x_B k101_62 rfl (fun _ => rfl) (fun _ => rfl) (fun _ _ => rfl) ?_
            show xe none 101 88 [(0, .ref 0), (1, vi a), (2, vi b), (3, vi 0)] [] s15 0 0 _
            refine x_A k101_88 (fun _ => rfl) ?_
            refine x_getR k101_89 (f := 9) rfl (q := 0) (n := 12) (kd := 3) ⟨by decide, rfl⟩ (q2 := 243) (by decide) rfl ?_
            refine x_getR k101_92 (f := 8) rfl (q := 243) (n := 13) (kd := 13) ⟨by decide, rfl⟩ (q2 := 253) (by decide) rfl ?_
            refine x_A k101_95 (fun _ => rfl) ?_
            refine x_iald k101_96 (q := 253) (n := 120) ⟨by decide, rfl⟩ (by decide) (by first | exact x_rbl b_a rfl rfl | exact ⟨by omega, by omega⟩) ?_
            refine x_top (fun z20 e_z20 => ?_)
            have g_z20 : (-1) ≤ s15 253 a.toNat ∧ s15 253 a.toNat ≤ 39 := hG_s15 253 a.toNat
            exact x_iret k101_97 rfl ⟨hG_s15, f_s15, z20, rfl, (by first | exact x_rbe e_z20 g_z20 rfl rfl | exact x_rb g_z20 rfl rfl | exact ⟨by omega, by omega⟩), VCj_s15⟩
          · rw [c19]
            refine x_B k101_62 rfl (fun _ => rfl) (fun _ => rfl) (fun _ _ => rfl) ?_
            show xe none 101 98 [(0, .ref 0), (1, vi a), (2, vi b), (3, vi 1)] [] s15 0 0 _
            refine x_A k101_98 (fun _ => rfl) ?_
            refine x_getR k101_99 (f := 9) rfl (q := 0) (n := 12) (kd := 3) ⟨by decide, rfl⟩ (q2 := 243) (by decide) rfl ?_
            refine x_getR k101_102 (f := 9) rfl (q := 243) (n := 13) (kd := 13) ⟨by decide, rfl⟩ (q2 := 254) (by decide) rfl ?_
            refine x_A k101_105 (fun _ => rfl) ?_
            refine x_bald k101_106 (q := 254) (n := 120) ⟨by decide, rfl⟩ (by decide) (by first | exact x_rbl b_a rfl rfl | exact ⟨by omega, by omega⟩) ?_
            refine x_top (fun z21 e_z21 => ?_)
            have g_z21 : (0 : Int) ≤ s15 254 a.toNat ∧ s15 254 a.toNat ≤ 1 := hG_s15 254 a.toNat
            refine x_callS k101_107 (y := 126) (n := 1) (w0 := 0) (w1 := 1) (as := [vi z21]) (rest := []) (by decide +kernel) rfl rfl rfl rfl (xe_mono (C_X10_oneIf s15 hG_s15 z21 (by first | exact x_rbe e_z21 g_z21 rfl rfl | exact x_rb g_z21 rfl rfl | exact ⟨by omega, by omega⟩)) ?_)
            rintro s23 v ⟨-, t_s23, z22, rfl, g_z22⟩
            rw [t_s23.nil]
            show xe none 101 110 [(0, .ref 0), (1, vi a), (2, vi b), (3, vi 1)] [vi z22] s15 0 0 _
            exact x_iret k101_110 rfl ⟨hG_s15, f_s15, z22, rfl, (by first | exact x_rbe e_z22 g_z22 rfl rfl | exact x_rb g_z22 rfl rfl | exact ⟨by omega, by omega⟩), VCj_s15⟩
          · rw [c19]
            refine x_B k101_62 rfl (fun _ => rfl) (fun _ => rfl) (fun _ _ => rfl) ?_
            show xe none 101 111 [(0, .ref 0), (1, vi a), (2, vi b), (3, vi 2)] [] s15 0 0 _
            refine x_A k101_111 (fun _ => rfl) ?_
            refine x_getR k101_112 (f := 5) rfl (q := 0) (n := 12) (kd := 3) ⟨by decide, rfl⟩ (q2 := 209) (by decide) rfl ?_
            refine x_A k101_115 (fun _ => rfl) ?_
            refine x_getR k101_116 (f := 4) rfl (q := 0) (n := 12) (kd := 3) ⟨by decide, rfl⟩ (q2 := 179) (by decide) rfl ?_
            refine x_A k101_119 (fun _ => rfl) ?_
            refine x_callV k101_120 (y := 16) (n := 2) (w0 := 0) (w1 := 2) (as := [.ref 179, vi b]) (rest := []) (by decide +kernel) (q := 209) (nq := 8) (kq := 9) ⟨by decide, rfl⟩ rfl rfl rfl rfl (xe_mono (E_X1_setTo_209_179 s15 hG_s15 (hJ0.fl f_s15 (by decide)) b (by first | exact x_rb b_b rfl rfl | exact ⟨by omega, by omega⟩) (pR.fl f_s15 (by decide))) ?_)
            rintro s25 v ⟨hG_s25, t_s25, rfl, xp_z24⟩
            have f_s25 : FL [3329, 3334, 3335, 3336, 3392, 3456, 3520, 3584, 3276, 3648, 3712, 3776, 3840, 3904, 3968, 3277, 4032, 1921, 1926, 1927, 1928, 1984, 2048, 2112, 2176] s0 s25 := f_s15.tr t_s25 (by decide)
            have q26 : s25 50 6 = z1 := (t_s25 50 6 (show 711 ∉ [1921, 1926, 1927, 1928, 1984, 2048, 2112, 2176] from by decide)).trans q16
            have q27 : s25 0 10 = z5 := (t_s25 0 10 (show 11 ∉ [1921, 1926, 1927, 1928, 1984, 2048, 2112, 2176] from by decide)).trans q17
            have q28 : s25 55 a.toNat = z12 := (t_s25 55 a.toNat (show 1024 ∉ [1921, 1926, 1927, 1928, 1984, 2048, 2112, 2176] from by decide)).trans q18
            have VCj_s25 : VCj s25 := VCj.fl VCj_s15 hG_s15 t_s25 (by decide)
            show xe none 101 123 [(0, .ref 0), (1, vi a), (2, vi b), (3, vi 2)] [] s25 0 0 _
            refine x_A k101_123 (fun _ => rfl) ?_
            refine x_getR k101_124 (f := 9) rfl (q := 0) (n := 12) (kd := 3) ⟨by decide, rfl⟩ (q2 := 243) (by decide) rfl ?_
            refine x_A k101_127 (fun _ => rfl) ?_
            refine x_A k101_128 (fun _ => rfl) ?_
            refine x_getR k101_129 (f := 5) rfl (q := 0) (n := 12) (kd := 3) ⟨by decide, rfl⟩ (q2 := 209) (by decide) rfl ?_
            refine x_callV k101_132 (y := 83) (n := 2) (w0 := 0) (w1 := 2) (as := [vi a, .ref 209]) (rest := []) (by decide +kernel) (q := 243) (nq := 13) (kq := 13) ⟨by decide, rfl⟩ rfl rfl rfl rfl (xe_mono (C_X8_isLacking_243_209 s25 hG_s25 a (by first | exact x_rb b_a rfl rfl | exact ⟨by omega, by omega⟩)) ?_)
            rintro s30 v ⟨-, t_s30, z29, rfl, g_z29⟩
            rw [t_s30.nil]
            show xe none 101 135 [(0, .ref 0), (1, vi a), (2, vi b), (3, vi 2)] [vi z29] s25 0 0 _
            refine x_callS k101_135 (y := 126) (n := 1) (w0 := 0) (w1 := 1) (as := [vi z29]) (rest := []) (by decide +kernel) rfl rfl rfl rfl (xe_mono (C_X10_oneIf s25 hG_s25 z29 (by first | exact x_rbe e_z29 g_z29 rfl rfl | exact x_rb g_z29 rfl rfl | exact ⟨by omega, by omega⟩)) ?_)
            rintro s32 v ⟨-, t_s32, z31, rfl, g_z31⟩
            rw [t_s32.nil]
            show xe none 101 138 [(0, .ref 0), (1, vi a), (2, vi b), (3, vi 2)] [vi z31] s25 0 0 _
            exact x_iret k101_138 rfl ⟨hG_s25, f_s25, z31, rfl, (by first | exact x_rbe e_z31 g_z31 rfl rfl | exact x_rb g_z31 rfl rfl | exact ⟨by omega, by omega⟩), VCj_s25⟩
        · skip
          refine x_sipush k101_49 (by decide +kernel) ?_
          exact x_iret k101_52 rfl ⟨hG0, f0, (-1003), rfl, ⟨by decide, by decide⟩, i0_VCj⟩
      · rw [e_z9]
        show xe none 101 29 [(0, .ref 0), (1, vi a), (2, vi b), (3, vi d)] [vi 0] s0 0 0 _
        refine x_if_ne k101_29 (t := 36) rfl ⟨by decide, by decide⟩ (fun c33 => by exfalso; omega) (fun c33 => ?_)
        refine x_sipush k101_32 (by decide +kernel) ?_
        exact x_iret k101_35 rfl ⟨hG0, f0, (-1002), rfl, ⟨by decide, by decide⟩, i0_VCj⟩
    · rw [e_z6]
      show xe none 101 20 [(0, .ref 0), (1, vi a), (2, vi b), (3, vi d)] [vi 0] s0 0 0 _
      refine x_if_eq k101_20 (t := 32) rfl ⟨by decide, by decide⟩ (fun c34 => ?_) (fun c34 => by exfalso; omega)
      refine x_sipush k101_32 (by decide +kernel) ?_
      exact x_iret k101_35 rfl ⟨hG0, f0, (-1002), rfl, ⟨by decide, by decide⟩, i0_VCj⟩
  · rw [e_z2]
    show xe none 101 8 [(0, .ref 0), (1, vi a), (2, vi b), (3, vi d)] [vi 0] s0 0 0 _
    refine x_if_ne k101_8 (t := 15) rfl ⟨by decide, by decide⟩ (fun c35 => by exfalso; omega) (fun c35 => ?_)
    refine x_sipush k101_11 (by decide +kernel) ?_
    exact x_iret k101_14 rfl ⟨hG0, f0, (-1001), rfl, ⟨by decide, by decide⟩, i0_VCj⟩
set_option maxHeartbeats 8000000 in
theorem L_V_X10_led_0_49 (s0 : xS) (hJ0 : J s0) (a : Int) (b_a : (-2147483648) ≤ a ∧ a ≤ 2147483647) (b : Int) (b_b : (-2147483648) ≤ b ∧ b ≤ 2147483647) (d : Int) (b_d : (-2147483648) ≤ d ∧ d ≤ 2147483647) (pR : R1 s0)  : ∀ (n : Nat) (s : xS) (x1 : Int) (x2 : Int) (x3 : Int) (x4 : Int) (hG : GI s) (f : FL [3329, 3334, 3335, 3336, 3392, 3456, 3520, 3584, 3276, 3648, 3712, 3776, 3840, 3904, 3968, 3277, 4032] s0 s) (b_x1 : 0 ≤ x1 ∧ x1 ≤ 39) (b_x2 : 0 ≤ x2 ∧ x2 ≤ 39) (b_x3 : 0 ≤ x3 ∧ x3 ≤ 9) (b_x4 : 0 ≤ x4 ∧ x4 ≤ 120) (i_VCj : VCj s)  (hm : (120 - x4) < (n : Int)), xe none 102 49 [(0, .ref 0), (1, vi x1), (2, vi x2), (3, vi x3), (4, vi x4)] [] s 0 0 (fun s' v => GI s' ∧ FL [3329, 3334, 3335, 3336, 3392, 3456, 3520, 3584, 3276, 3648, 3712, 3776, 3840, 3904, 3968, 3277, 4032] s0 s' ∧ ∃ z, v = some (vi z) ∧ ((-1004) ≤ z ∧ z ≤ 127) ∧ VCj s') := by
  intro n
  induction n with
  | zero => intro s x1 x2 x3 x4 hG f b_x1 b_x2 b_x3 b_x4 i_VCj  hm; exfalso; omega
  | succ n ih =>
    intro s x1 x2 x3 x4 hG f b_x1 b_x2 b_x3 b_x4 i_VCj  hm
    refine x_A k102_49 (fun _ => rfl) ?_
    refine x_A k102_51 (fun _ => rfl) ?_
    refine x_getR k102_52 (f := 2) rfl (q := 0) (n := 12) (kd := 3) ⟨by decide, rfl⟩ (q2 := 50) (by decide) rfl ?_
    refine x_getI k102_55 (f := 6) rfl (q := 50) (n := 7) (kd := 6) ⟨by decide, rfl⟩ (by decide) rfl ?_
    refine x_top (fun z521 e_z521 => ?_)
    have g_z521 : (0 : Int) ≤ s 50 6 ∧ s 50 6 ≤ 120 := hG 50 6
    refine x_ic_ge k102_58 (t := 97) rfl (by first | exact x_rb b_x4 rfl rfl | exact ⟨by omega, by omega⟩) (by first | exact x_rbe e_z521 g_z521 rfl rfl | exact x_rb g_z521 rfl rfl | exact ⟨by omega, by omega⟩) (fun c522 => ?_) (fun c522 => ?_)
    · skip
      refine x_A k102_97 (fun _ => rfl) ?_
      exact x_iret k102_98 rfl ⟨hG, f, (-1), rfl, ⟨by decide, by decide⟩, i_VCj⟩
    · skip
      refine x_A k102_61 (fun _ => rfl) ?_
      refine x_getR k102_62 (f := 2) rfl (q := 0) (n := 12) (kd := 3) ⟨by decide, rfl⟩ (q2 := 50) (by decide) rfl ?_
      refine x_getR k102_65 (f := 0) rfl (q := 50) (n := 7) (kd := 6) ⟨by decide, rfl⟩ (q2 := 51) (by decide) rfl ?_
      refine x_A k102_68 (fun _ => rfl) ?_
      refine x_iald k102_70 (q := 51) (n := 120) ⟨by decide, rfl⟩ (by decide) (by first | exact x_rbl b_x4 rfl rfl | exact ⟨by omega, by omega⟩) ?_
      refine x_top (fun z523 e_z523 => ?_)
      have g_z523 : (0 : Int) ≤ s 51 x4.toNat ∧ s 51 x4.toNat ≤ 39 := hG 51 x4.toNat
      refine x_A k102_71 (fun _ => rfl) ?_
      refine x_ic_ne k102_72 (t := 91) rfl (by first | exact x_rbe e_z523 g_z523 rfl rfl | exact x_rb g_z523 rfl rfl | exact ⟨by omega, by omega⟩) (by first | exact x_rb b_x1 rfl rfl | exact ⟨by omega, by omega⟩) (fun c524 => ?_) (fun c524 => ?_)
      · skip
        refine x_iinc k102_91 (ls' := [(4, vi (x4 + 1)), (0, .ref 0), (1, vi x1), (2, vi x2), (3, vi x3)]) rfl (by decide) rfl ?_
        refine x_goto k102_94 (t := 49) rfl ?_
        refine x_ls (l := [(0, .ref 0), (1, vi x1), (2, vi x2), (3, vi x3), (4, vi (x4 + 1))]) (show ([0, 1, 2, 3, 4] : List Nat).Nodup from by decide) ⟨rfl, rfl, rfl, rfl, rfl, trivial⟩ ?_
        exact ih s x1 x2 x3 (x4 + 1) hG f (by first | exact x_rb b_x1 rfl rfl | exact ⟨by omega, by omega⟩) (by first | exact x_rb b_x2 rfl rfl | exact ⟨by omega, by omega⟩) (by first | exact x_rb b_x3 rfl rfl | exact ⟨by omega, by omega⟩) ⟨by omega, by omega⟩ i_VCj  (by omega)
      · skip
        refine x_A k102_75 (fun _ => rfl) ?_
        refine x_getR k102_76 (f := 9) rfl (q := 0) (n := 12) (kd := 3) ⟨by decide, rfl⟩ (q2 := 243) (by decide) rfl ?_
        refine x_A k102_79 (fun _ => rfl) ?_
        refine x_A k102_81 (fun _ => rfl) ?_
        refine x_callV k102_82 (y := 81) (n := 2) (w0 := 0) (w1 := 2) (as := [vi x4, vi x2]) (rest := []) (by decide +kernel) (q := 243) (nq := 13) (kq := 13) ⟨by decide, rfl⟩ rfl rfl rfl rfl (xe_mono (C_X8_meansBelow_243 s hG x4 (by first | exact x_rb b_x4 rfl rfl | exact ⟨by omega, by omega⟩) x2 (by first | exact x_rb b_x2 rfl rfl | exact ⟨by omega, by omega⟩)) ?_)
        rintro s526 v ⟨-, t_s526, z525, rfl, g_z525⟩
        rw [t_s526.nil]
        show xe none 102 85 [(0, .ref 0), (1, vi x1), (2, vi x2), (3, vi x3), (4, vi x4)] [vi z525] s 0 0 _
        refine x_if_eq k102_85 (t := 91) rfl (by first | exact x_rbe e_z525 g_z525 rfl rfl | exact x_rb g_z525 rfl rfl | exact ⟨by omega, by omega⟩) (fun c527 => ?_) (fun c527 => ?_)
        · skip
          refine x_iinc k102_91 (ls' := [(4, vi (x4 + 1)), (0, .ref 0), (1, vi x1), (2, vi x2), (3, vi x3)]) rfl (by decide) rfl ?_
          refine x_goto k102_94 (t := 49) rfl ?_
          refine x_ls (l := [(0, .ref 0), (1, vi x1), (2, vi x2), (3, vi x3), (4, vi (x4 + 1))]) (show ([0, 1, 2, 3, 4] : List Nat).Nodup from by decide) ⟨rfl, rfl, rfl, rfl, rfl, trivial⟩ ?_
          exact ih s x1 x2 x3 (x4 + 1) hG f (by first | exact x_rb b_x1 rfl rfl | exact ⟨by omega, by omega⟩) (by first | exact x_rb b_x2 rfl rfl | exact ⟨by omega, by omega⟩) (by first | exact x_rb b_x3 rfl rfl | exact ⟨by omega, by omega⟩) ⟨by omega, by omega⟩ i_VCj  (by omega)
        · skip
          refine x_A k102_88 (fun _ => rfl) ?_
          exact x_iret k102_90 rfl ⟨hG, f, x4, rfl, (by first | exact x_rb b_x4 rfl rfl | exact ⟨by omega, by omega⟩), i_VCj⟩
set_option maxHeartbeats 8000000 in
theorem V_X10_led_0 (s0 : xS) (hG0 : GI s0) (hJ0 : J s0) (a : Int) (b_a : (-2147483648) ≤ a ∧ a ≤ 2147483647) (b : Int) (b_b : (-2147483648) ≤ b ∧ b ≤ 2147483647) (d : Int) (b_d : (-2147483648) ≤ d ∧ d ≤ 2147483647) (pR : R1 s0) (i0_VCj : VCj s0) : xe none 102 0 (lv_args 0 [.ref 0, vi a, vi b, vi d]) [] s0 0 0 (fun s' v => GI s' ∧ FL [3329, 3334, 3335, 3336, 3392, 3456, 3520, 3584, 3276, 3648, 3712, 3776, 3840, 3904, 3968, 3277, 4032] s0 s' ∧ ∃ z, v = some (vi z) ∧ ((-1004) ≤ z ∧ z ≤ 127) ∧ VCj s') := by
  have f0 : FL [3329, 3334, 3335, 3336, 3392, 3456, 3520, 3584, 3276, 3648, 3712, 3776, 3840, 3904, 3968, 3277, 4032] s0 s0 := FL.rf
  show xe none 102 0 [(0, .ref 0), (1, vi a), (2, vi b), (3, vi d)] [] s0 0 0 _
  refine x_A k102_0 (fun _ => rfl) ?_
  refine x_getR k102_1 (f := 1) rfl (q := 0) (n := 12) (kd := 3) ⟨by decide, rfl⟩ (q2 := 46) (by decide) rfl ?_
  refine x_A k102_4 (fun _ => rfl) ?_
  obtain ⟨z528, e_z528⟩ : ∃ z, z = s0 46 3 := ⟨_, rfl⟩
  have g_z528 : (0 : Int) ≤ s0 46 3 ∧ s0 46 3 ≤ 40 := hG0 46 3
  refine x_callV k102_5 (y := 29) (n := 1) (w0 := 0) (w1 := 1) (as := [vi a]) (rest := []) (by decide +kernel) (q := 46) (nq := 4) (kq := 5) ⟨by decide, rfl⟩ rfl rfl rfl rfl (xe_mono (C_X3_has_46 s0 hG0 a (by first | exact x_rb b_a rfl rfl | exact ⟨by omega, by omega⟩)) ?_)
  rintro s530 v ⟨h_s530, z529, rfl, hz_z529⟩
  rw [h_s530]
  rcases hz_z529 with ⟨c_z529, e_z529⟩ | ⟨c_z529, e_z529⟩
  · rw [e_z529]
    show xe none 102 8 [(0, .ref 0), (1, vi a), (2, vi b), (3, vi d)] [vi 1] s0 0 0 _
    refine x_if_eq k102_8 (t := 22) rfl ⟨by decide, by decide⟩ (fun c531 => by exfalso; omega) (fun c531 => ?_)
    refine x_A k102_11 (fun _ => rfl) ?_
    refine x_getR k102_12 (f := 0) rfl (q := 0) (n := 12) (kd := 3) ⟨by decide, rfl⟩ (q2 := 1) (by decide) rfl ?_
    refine x_A k102_15 (fun _ => rfl) ?_
    obtain ⟨z532, e_z532⟩ : ∃ z, z = s0 1 4 := ⟨_, rfl⟩
    have g_z532 : (1 : Int) ≤ s0 1 4 ∧ s0 1 4 ≤ 40 := hG0 1 4
    refine x_callV k102_16 (y := 59) (n := 1) (w0 := 0) (w1 := 1) (as := [vi b]) (rest := []) (by decide +kernel) (q := 1) (nq := 5) (kq := 4) ⟨by decide, rfl⟩ rfl rfl rfl rfl (xe_mono (C_X7_has_1 s0 hG0 b (by first | exact x_rb b_b rfl rfl | exact ⟨by omega, by omega⟩)) ?_)
    rintro s534 v ⟨h_s534, z533, rfl, hz_z533⟩
    rw [h_s534]
    rcases hz_z533 with ⟨c_z533, e_z533⟩ | ⟨c_z533, e_z533⟩
    · rw [e_z533]
      show xe none 102 19 [(0, .ref 0), (1, vi a), (2, vi b), (3, vi d)] [vi 1] s0 0 0 _
      refine x_if_ne k102_19 (t := 26) rfl ⟨by decide, by decide⟩ (fun c535 => ?_) (fun c535 => by exfalso; omega)
      refine x_A k102_26 (fun _ => rfl) ?_
      refine x_A k102_27 (fun _ => rfl) ?_
      obtain ⟨z536, e_z536⟩ : ∃ z, z = s0 0 10 := ⟨_, rfl⟩
      have g_z536 : (0 : Int) ≤ s0 0 10 ∧ s0 0 10 ≤ 9 := hG0 0 10
      refine x_callV k102_28 (y := 125) (n := 1) (w0 := 0) (w1 := 1) (as := [vi d]) (rest := []) (by decide +kernel) (q := 0) (nq := 12) (kq := 3) ⟨by decide, rfl⟩ rfl rfl rfl rfl (xe_mono (C_X10_isKnownEdition_0 s0 hG0 d (by first | exact x_rb b_d rfl rfl | exact ⟨by omega, by omega⟩)) ?_)
      rintro s538 v ⟨h_s538, z537, rfl, hz_z537⟩
      rw [h_s538]
      rcases hz_z537 with ⟨c_z537, e_z537⟩ | ⟨c_z537, e_z537⟩
      · rw [e_z537]
        show xe none 102 31 [(0, .ref 0), (1, vi a), (2, vi b), (3, vi d)] [vi 1] s0 0 0 _
        refine x_if_ne k102_31 (t := 38) rfl ⟨by decide, by decide⟩ (fun c539 => ?_) (fun c539 => by exfalso; omega)
        refine x_A k102_38 (fun _ => rfl) ?_
        refine x_getR k102_39 (f := 9) rfl (q := 0) (n := 12) (kd := 3) ⟨by decide, rfl⟩ (q2 := 243) (by decide) rfl ?_
        refine x_A k102_42 (fun _ => rfl) ?_
        refine x_callV k102_43 (y := 76) (n := 1) (w0 := 0) (w1 := 1) (as := [vi d]) (rest := []) (by decide +kernel) (q := 243) (nq := 13) (kq := 13) ⟨by decide, rfl⟩ rfl rfl rfl rfl (xe_mono (V_X8_lookIn_243 s0 hG0 (hJ0.fl f0 (by decide)) d (by first | exact x_rb b_d rfl rfl | exact ⟨by omega, by omega⟩) (pR.fl f0 (by decide)) i0_VCj) ?_)
        rintro s541 v ⟨hG_s541, t_s541, rfl, VCj_s541⟩
        have f_s541 : FL [3329, 3334, 3335, 3336, 3392, 3456, 3520, 3584, 3276, 3648, 3712, 3776, 3840, 3904, 3968, 3277, 4032] s0 s541 := f0.tr t_s541 (by decide)
        have q542 : s541 46 3 = z528 := (t_s541 46 3 (show 452 ∉ [3329, 3334, 3335, 3336, 3392, 3456, 3520, 3584, 3276, 3648, 3712, 3776, 3840, 3904, 3968, 3277, 4032] from by decide)).trans e_z528.symm
        have q543 : s541 1 4 = z532 := (t_s541 1 4 (show 69 ∉ [3329, 3334, 3335, 3336, 3392, 3456, 3520, 3584, 3276, 3648, 3712, 3776, 3840, 3904, 3968, 3277, 4032] from by decide)).trans e_z532.symm
        have q544 : s541 0 10 = z536 := (t_s541 0 10 (show 11 ∉ [3329, 3334, 3335, 3336, 3392, 3456, 3520, 3584, 3276, 3648, 3712, 3776, 3840, 3904, 3968, 3277, 4032] from by decide)).trans e_z536.symm
        show xe none 102 46 [(0, .ref 0), (1, vi a), (2, vi b), (3, vi d)] [] s541 0 0 _
        refine x_A k102_46 (fun _ => rfl) ?_
        refine x_istore k102_47 (ls' := [(4, vi 0), (0, .ref 0), (1, vi a), (2, vi b), (3, vi d)]) (by decide) rfl ?_
        refine x_ls (l := [(0, .ref 0), (1, vi a), (2, vi b), (3, vi d), (4, vi 0)]) (show ([0, 1, 2, 3, 4] : List Nat).Nodup from by decide) ⟨rfl, rfl, rfl, rfl, rfl, trivial⟩ ?_
        exact L_V_X10_led_0_49 s0 hJ0 a b_a b b_b d b_d pR  (((120 - 0) + 1 : Int)).toNat s541 a b d 0 hG_s541 f_s541 (by first | exact x_rb b_a rfl rfl | exact ⟨by omega, by omega⟩) (by first | exact x_rb b_b rfl rfl | exact ⟨by omega, by omega⟩) (by first | exact x_rb b_d rfl rfl | exact ⟨by omega, by omega⟩) ⟨by decide, by decide⟩ VCj_s541  (by omega)
      · rw [e_z537]
        show xe none 102 31 [(0, .ref 0), (1, vi a), (2, vi b), (3, vi d)] [vi 0] s0 0 0 _
        refine x_if_ne k102_31 (t := 38) rfl ⟨by decide, by decide⟩ (fun c545 => by exfalso; omega) (fun c545 => ?_)
        refine x_sipush k102_34 (by decide +kernel) ?_
        exact x_iret k102_37 rfl ⟨hG0, f0, (-1002), rfl, ⟨by decide, by decide⟩, i0_VCj⟩
    · rw [e_z533]
      show xe none 102 19 [(0, .ref 0), (1, vi a), (2, vi b), (3, vi d)] [vi 0] s0 0 0 _
      refine x_if_ne k102_19 (t := 26) rfl ⟨by decide, by decide⟩ (fun c546 => by exfalso; omega) (fun c546 => ?_)
      refine x_sipush k102_22 (by decide +kernel) ?_
      exact x_iret k102_25 rfl ⟨hG0, f0, (-1001), rfl, ⟨by decide, by decide⟩, i0_VCj⟩
  · rw [e_z529]
    show xe none 102 8 [(0, .ref 0), (1, vi a), (2, vi b), (3, vi d)] [vi 0] s0 0 0 _
    refine x_if_eq k102_8 (t := 22) rfl ⟨by decide, by decide⟩ (fun c547 => ?_) (fun c547 => by exfalso; omega)
    refine x_sipush k102_22 (by decide +kernel) ?_
    exact x_iret k102_25 rfl ⟨hG0, f0, (-1001), rfl, ⟨by decide, by decide⟩, i0_VCj⟩
set_option maxHeartbeats 8000000 in
theorem V_X10_count_0 (s0 : xS) (hG0 : GI s0) (hJ0 : J s0) (a : Int) (b_a : (-2147483648) ≤ a ∧ a ≤ 2147483647) (pR : R1 s0) (i0_VCj : VCj s0) : xe none 103 0 (lv_args 0 [.ref 0, vi a]) [] s0 0 0 (fun s' v => GI s' ∧ FL [3329, 3334, 3335, 3336, 3392, 3456, 3520, 3584, 3276, 3648, 3712, 3776, 3840, 3904, 3968, 3277, 4032, 1921, 1926, 1927, 1928, 1984, 2048, 2112, 2176] s0 s' ∧ ∃ z, v = some (vi z) ∧ ((-1004) ≤ z ∧ z ≤ 160) ∧ VCj s') := by
  have f0 : FL [3329, 3334, 3335, 3336, 3392, 3456, 3520, 3584, 3276, 3648, 3712, 3776, 3840, 3904, 3968, 3277, 4032, 1921, 1926, 1927, 1928, 1984, 2048, 2112, 2176] s0 s0 := FL.rf
  show xe none 103 0 [(0, .ref 0), (1, vi a)] [] s0 0 0 _
  refine x_A k103_0 (fun _ => rfl) ?_
  refine x_A k103_1 (fun _ => rfl) ?_
  refine x_bipush k103_2 (by decide +kernel) ?_
  refine x_callS k103_4 (y := 121) (n := 3) (w0 := 0) (w1 := 3) (as := [vi a, vi 0, vi 12]) (rest := []) (by decide +kernel) rfl rfl rfl rfl (xe_mono (C_X10_isWithin s0 hG0 a (by first | exact x_rb b_a rfl rfl | exact ⟨by omega, by omega⟩) 0 ⟨by decide, by decide⟩ 12 ⟨by decide, by decide⟩) ?_)
  rintro s2 v ⟨h_s2, z1, rfl, hz_z1⟩
  rw [h_s2]
  rcases hz_z1 with ⟨c_z1, e_z1⟩ | ⟨c_z1, e_z1⟩
  · rw [e_z1]
    show xe none 103 7 [(0, .ref 0), (1, vi a)] [vi 1] s0 0 0 _
    refine x_if_ne k103_7 (t := 14) rfl ⟨by decide, by decide⟩ (fun c3 => ?_) (fun c3 => by exfalso; omega)
    refine x_A k103_14 (fun _ => rfl) ?_
    have c4 : a = 0 ∨ a = 1 ∨ a = 2 ∨ a = 3 ∨ a = 4 ∨ a = 5 ∨ a = 6 ∨ a = 7 ∨ a = 8 ∨ a = 9 ∨ a = 10 ∨ a = 11 ∨ ¬ (0 ≤ a ∧ a ≤ 11) := by omega
    rcases c4 with c4 | c4 | c4 | c4 | c4 | c4 | c4 | c4 | c4 | c4 | c4 | c4 | c4
    · rw [c4]
      refine x_B k103_15 rfl (fun _ => rfl) (fun _ => rfl) (fun _ _ => rfl) ?_
      show xe none 103 76 [(0, .ref 0), (1, vi 0)] [] s0 0 0 _
      refine x_A k103_76 (fun _ => rfl) ?_
      refine x_getI k103_77 (f := 10) rfl (q := 0) (n := 12) (kd := 3) ⟨by decide, rfl⟩ (by decide) rfl ?_
      refine x_top (fun z5 e_z5 => ?_)
      have g_z5 : (0 : Int) ≤ s0 0 10 ∧ s0 0 10 ≤ 9 := hG0 0 10
      exact x_iret k103_80 rfl ⟨hG0, f0, z5, rfl, (by first | exact x_rbe e_z5 g_z5 rfl rfl | exact x_rb g_z5 rfl rfl | exact ⟨by omega, by omega⟩), i0_VCj⟩
    · rw [c4]
      refine x_B k103_15 rfl (fun _ => rfl) (fun _ => rfl) (fun _ _ => rfl) ?_
      show xe none 103 81 [(0, .ref 0), (1, vi 1)] [] s0 0 0 _
      refine x_A k103_81 (fun _ => rfl) ?_
      refine x_getR k103_82 (f := 0) rfl (q := 0) (n := 12) (kd := 3) ⟨by decide, rfl⟩ (q2 := 1) (by decide) rfl ?_
      refine x_getI k103_85 (f := 4) rfl (q := 1) (n := 5) (kd := 4) ⟨by decide, rfl⟩ (by decide) rfl ?_
      refine x_top (fun z6 e_z6 => ?_)
      have g_z6 : (1 : Int) ≤ s0 1 4 ∧ s0 1 4 ≤ 40 := hG0 1 4
      exact x_iret k103_88 rfl ⟨hG0, f0, z6, rfl, (by first | exact x_rbe e_z6 g_z6 rfl rfl | exact x_rb g_z6 rfl rfl | exact ⟨by omega, by omega⟩), i0_VCj⟩
    · rw [c4]
      refine x_B k103_15 rfl (fun _ => rfl) (fun _ => rfl) (fun _ _ => rfl) ?_
      show xe none 103 89 [(0, .ref 0), (1, vi 2)] [] s0 0 0 _
      refine x_A k103_89 (fun _ => rfl) ?_
      refine x_getR k103_90 (f := 0) rfl (q := 0) (n := 12) (kd := 3) ⟨by decide, rfl⟩ (q2 := 1) (by decide) rfl ?_
      refine x_A k103_93 (fun _ => rfl) ?_
      refine x_getI k103_94 (f := 10) rfl (q := 0) (n := 12) (kd := 3) ⟨by decide, rfl⟩ (by decide) rfl ?_
      refine x_top (fun z7 e_z7 => ?_)
      have g_z7 : (0 : Int) ≤ s0 0 10 ∧ s0 0 10 ≤ 9 := hG0 0 10
      refine x_callV k103_97 (y := 68) (n := 1) (w0 := 0) (w1 := 1) (as := [vi z7]) (rest := []) (by decide +kernel) (q := 1) (nq := 5) (kq := 4) ⟨by decide, rfl⟩ rfl rfl rfl rfl (xe_mono (C_X7_countThere_1 s0 hG0 z7 (by first | exact x_rbe e_z7 g_z7 rfl rfl | exact x_rb g_z7 rfl rfl | exact ⟨by omega, by omega⟩)) ?_)
      rintro s9 v ⟨-, t_s9, z8, rfl, g_z8⟩
      rw [t_s9.nil]
      show xe none 103 100 [(0, .ref 0), (1, vi 2)] [vi z8] s0 0 0 _
      exact x_iret k103_100 rfl ⟨hG0, f0, z8, rfl, (by first | exact x_rbe e_z8 g_z8 rfl rfl | exact x_rb g_z8 rfl rfl | exact ⟨by omega, by omega⟩), i0_VCj⟩
    · rw [c4]
      refine x_B k103_15 rfl (fun _ => rfl) (fun _ => rfl) (fun _ _ => rfl) ?_
      show xe none 103 101 [(0, .ref 0), (1, vi 3)] [] s0 0 0 _
      refine x_A k103_101 (fun _ => rfl) ?_
      refine x_getR k103_102 (f := 1) rfl (q := 0) (n := 12) (kd := 3) ⟨by decide, rfl⟩ (q2 := 46) (by decide) rfl ?_
      refine x_getI k103_105 (f := 3) rfl (q := 46) (n := 4) (kd := 5) ⟨by decide, rfl⟩ (by decide) rfl ?_
      refine x_top (fun z10 e_z10 => ?_)
      have g_z10 : (0 : Int) ≤ s0 46 3 ∧ s0 46 3 ≤ 40 := hG0 46 3
      exact x_iret k103_108 rfl ⟨hG0, f0, z10, rfl, (by first | exact x_rbe e_z10 g_z10 rfl rfl | exact x_rb g_z10 rfl rfl | exact ⟨by omega, by omega⟩), i0_VCj⟩
    · rw [c4]
      refine x_B k103_15 rfl (fun _ => rfl) (fun _ => rfl) (fun _ _ => rfl) ?_
      show xe none 103 109 [(0, .ref 0), (1, vi 4)] [] s0 0 0 _
      refine x_A k103_109 (fun _ => rfl) ?_
      refine x_getR k103_110 (f := 2) rfl (q := 0) (n := 12) (kd := 3) ⟨by decide, rfl⟩ (q2 := 50) (by decide) rfl ?_
      refine x_getI k103_113 (f := 6) rfl (q := 50) (n := 7) (kd := 6) ⟨by decide, rfl⟩ (by decide) rfl ?_
      refine x_top (fun z11 e_z11 => ?_)
      have g_z11 : (0 : Int) ≤ s0 50 6 ∧ s0 50 6 ≤ 120 := hG0 50 6
      exact x_iret k103_116 rfl ⟨hG0, f0, z11, rfl, (by first | exact x_rbe e_z11 g_z11 rfl rfl | exact x_rb g_z11 rfl rfl | exact ⟨by omega, by omega⟩), i0_VCj⟩
    · rw [c4]
      refine x_B k103_15 rfl (fun _ => rfl) (fun _ => rfl) (fun _ _ => rfl) ?_
      show xe none 103 117 [(0, .ref 0), (1, vi 5)] [] s0 0 0 _
      refine x_A k103_117 (fun _ => rfl) ?_
      refine x_getR k103_118 (f := 9) rfl (q := 0) (n := 12) (kd := 3) ⟨by decide, rfl⟩ (q2 := 243) (by decide) rfl ?_
      refine x_callV k103_121 (y := 74) (n := 0) (w0 := 0) (w1 := 0) (as := []) (rest := []) (by decide +kernel) (q := 243) (nq := 13) (kq := 13) ⟨by decide, rfl⟩ rfl rfl rfl rfl (xe_mono (E_X8_judge_243 s0 hG0 (hJ0.fl f0 (by decide)) (pR.fl f0 (by decide)) i0_VCj) ?_)
      rintro s13 v ⟨hG_s13, t_s13, rfl, xp_z12⟩
      have f_s13 : FL [3329, 3334, 3335, 3336, 3392, 3456, 3520, 3584, 3276, 3648, 3712, 3776, 3840, 3904, 3968, 3277, 4032, 1921, 1926, 1927, 1928, 1984, 2048, 2112, 2176] s0 s13 := f0.tr t_s13 (by decide)
      obtain ⟨z14, e_z14⟩ : ∃ z, z = s13 243 11 := ⟨_, rfl⟩
      have g_z14 : (0 : Int) ≤ s13 243 11 ∧ s13 243 11 ≤ 1 := hG_s13 243 11
      show xe none 103 124 [(0, .ref 0), (1, vi 5)] [] s13 0 0 _
      have VCj_d : VCj s13 := VCj.judge hG0 t_s13 (by decide) xp_z12.1
      refine x_A k103_124 (fun _ => rfl) ?_
      refine x_getR k103_125 (f := 9) rfl (q := 0) (n := 12) (kd := 3) ⟨by decide, rfl⟩ (q2 := 243) (by decide) rfl ?_
      refine x_callV k103_128 (y := 84) (n := 0) (w0 := 0) (w1 := 0) (as := []) (rest := []) (by decide +kernel) (q := 243) (nq := 13) (kq := 13) ⟨by decide, rfl⟩ rfl rfl rfl rfl (xe_mono (C_X8_countWrong_243 s13 hG_s13) ?_)
      rintro s16 v ⟨-, t_s16, z15, rfl, g_z15⟩
      rw [t_s16.nil]
      show xe none 103 131 [(0, .ref 0), (1, vi 5)] [vi z15] s13 0 0 _
      exact x_iret k103_131 rfl ⟨hG_s13, f_s13, z15, rfl, (by first | exact x_rbe e_z15 g_z15 rfl rfl | exact x_rb g_z15 rfl rfl | exact ⟨by omega, by omega⟩), VCj_d⟩
    · rw [c4]
      refine x_B k103_15 rfl (fun _ => rfl) (fun _ => rfl) (fun _ _ => rfl) ?_
      show xe none 103 132 [(0, .ref 0), (1, vi 6)] [] s0 0 0 _
      refine x_A k103_132 (fun _ => rfl) ?_
      refine x_getR k103_133 (f := 9) rfl (q := 0) (n := 12) (kd := 3) ⟨by decide, rfl⟩ (q2 := 243) (by decide) rfl ?_
      refine x_A k103_136 (fun _ => rfl) ?_
      refine x_getI k103_137 (f := 10) rfl (q := 0) (n := 12) (kd := 3) ⟨by decide, rfl⟩ (by decide) rfl ?_
      refine x_top (fun z17 e_z17 => ?_)
      have g_z17 : (0 : Int) ≤ s0 0 10 ∧ s0 0 10 ≤ 9 := hG0 0 10
      refine x_callV k103_140 (y := 76) (n := 1) (w0 := 0) (w1 := 1) (as := [vi z17]) (rest := []) (by decide +kernel) (q := 243) (nq := 13) (kq := 13) ⟨by decide, rfl⟩ rfl rfl rfl rfl (xe_mono (V_X8_lookIn_243 s0 hG0 (hJ0.fl f0 (by decide)) z17 (by first | exact x_rbe e_z17 g_z17 rfl rfl | exact x_rb g_z17 rfl rfl | exact ⟨by omega, by omega⟩) (pR.fl f0 (by decide)) i0_VCj) ?_)
      rintro s19 v ⟨hG_s19, t_s19, rfl, VCj_s19⟩
      have f_s19 : FL [3329, 3334, 3335, 3336, 3392, 3456, 3520, 3584, 3276, 3648, 3712, 3776, 3840, 3904, 3968, 3277, 4032, 1921, 1926, 1927, 1928, 1984, 2048, 2112, 2176] s0 s19 := f0.tr t_s19 (by decide)
      have q20 : s19 0 10 = z17 := (t_s19 0 10 (show 11 ∉ [3329, 3334, 3335, 3336, 3392, 3456, 3520, 3584, 3276, 3648, 3712, 3776, 3840, 3904, 3968, 3277, 4032] from by decide)).trans e_z17.symm
      show xe none 103 143 [(0, .ref 0), (1, vi 6)] [] s19 0 0 _
      refine x_A k103_143 (fun _ => rfl) ?_
      refine x_getR k103_144 (f := 9) rfl (q := 0) (n := 12) (kd := 3) ⟨by decide, rfl⟩ (q2 := 243) (by decide) rfl ?_
      refine x_callV k103_147 (y := 85) (n := 0) (w0 := 0) (w1 := 0) (as := []) (rest := []) (by decide +kernel) (q := 243) (nq := 13) (kq := 13) ⟨by decide, rfl⟩ rfl rfl rfl rfl (xe_mono (C_X8_countNeedingLook_243 s19 hG_s19) ?_)
      rintro s22 v ⟨-, t_s22, z21, rfl, g_z21⟩
      rw [t_s22.nil]
      show xe none 103 150 [(0, .ref 0), (1, vi 6)] [vi z21] s19 0 0 _
      exact x_iret k103_150 rfl ⟨hG_s19, f_s19, z21, rfl, (by first | exact x_rbe e_z21 g_z21 rfl rfl | exact x_rb g_z21 rfl rfl | exact ⟨by omega, by omega⟩), VCj_s19⟩
    · rw [c4]
      refine x_B k103_15 rfl (fun _ => rfl) (fun _ => rfl) (fun _ _ => rfl) ?_
      show xe none 103 151 [(0, .ref 0), (1, vi 7)] [] s0 0 0 _
      refine x_A k103_151 (fun _ => rfl) ?_
      refine x_getR k103_152 (f := 9) rfl (q := 0) (n := 12) (kd := 3) ⟨by decide, rfl⟩ (q2 := 243) (by decide) rfl ?_
      refine x_A k103_155 (fun _ => rfl) ?_
      refine x_getI k103_156 (f := 10) rfl (q := 0) (n := 12) (kd := 3) ⟨by decide, rfl⟩ (by decide) rfl ?_
      refine x_top (fun z23 e_z23 => ?_)
      have g_z23 : (0 : Int) ≤ s0 0 10 ∧ s0 0 10 ≤ 9 := hG0 0 10
      refine x_callV k103_159 (y := 76) (n := 1) (w0 := 0) (w1 := 1) (as := [vi z23]) (rest := []) (by decide +kernel) (q := 243) (nq := 13) (kq := 13) ⟨by decide, rfl⟩ rfl rfl rfl rfl (xe_mono (V_X8_lookIn_243 s0 hG0 (hJ0.fl f0 (by decide)) z23 (by first | exact x_rbe e_z23 g_z23 rfl rfl | exact x_rb g_z23 rfl rfl | exact ⟨by omega, by omega⟩) (pR.fl f0 (by decide)) i0_VCj) ?_)
      rintro s25 v ⟨hG_s25, t_s25, rfl, VCj_s25⟩
      have f_s25 : FL [3329, 3334, 3335, 3336, 3392, 3456, 3520, 3584, 3276, 3648, 3712, 3776, 3840, 3904, 3968, 3277, 4032, 1921, 1926, 1927, 1928, 1984, 2048, 2112, 2176] s0 s25 := f0.tr t_s25 (by decide)
      have q26 : s25 0 10 = z23 := (t_s25 0 10 (show 11 ∉ [3329, 3334, 3335, 3336, 3392, 3456, 3520, 3584, 3276, 3648, 3712, 3776, 3840, 3904, 3968, 3277, 4032] from by decide)).trans e_z23.symm
      show xe none 103 162 [(0, .ref 0), (1, vi 7)] [] s25 0 0 _
      refine x_A k103_162 (fun _ => rfl) ?_
      refine x_getR k103_163 (f := 5) rfl (q := 0) (n := 12) (kd := 3) ⟨by decide, rfl⟩ (q2 := 209) (by decide) rfl ?_
      refine x_A k103_166 (fun _ => rfl) ?_
      refine x_getR k103_167 (f := 4) rfl (q := 0) (n := 12) (kd := 3) ⟨by decide, rfl⟩ (q2 := 179) (by decide) rfl ?_
      refine x_A k103_170 (fun _ => rfl) ?_
      refine x_getI k103_171 (f := 10) rfl (q := 0) (n := 12) (kd := 3) ⟨by decide, rfl⟩ (by decide) rfl ?_
      rw [q26]
      refine x_callV k103_174 (y := 16) (n := 2) (w0 := 0) (w1 := 2) (as := [.ref 179, vi z23]) (rest := []) (by decide +kernel) (q := 209) (nq := 8) (kq := 9) ⟨by decide, rfl⟩ rfl rfl rfl rfl (xe_mono (E_X1_setTo_209_179 s25 hG_s25 (hJ0.fl f_s25 (by decide)) z23 (by first | exact x_rbe e_z23 g_z23 rfl rfl | exact x_rb g_z23 rfl rfl | exact ⟨by omega, by omega⟩) (pR.fl f_s25 (by decide))) ?_)
      rintro s28 v ⟨hG_s28, t_s28, rfl, xp_z27⟩
      have f_s28 : FL [3329, 3334, 3335, 3336, 3392, 3456, 3520, 3584, 3276, 3648, 3712, 3776, 3840, 3904, 3968, 3277, 4032, 1921, 1926, 1927, 1928, 1984, 2048, 2112, 2176] s0 s28 := f_s25.tr t_s28 (by decide)
      have q29 : s28 0 10 = z23 := (t_s28 0 10 (show 11 ∉ [1921, 1926, 1927, 1928, 1984, 2048, 2112, 2176] from by decide)).trans q26
      have VCj_s28 : VCj s28 := VCj.fl VCj_s25 hG_s25 t_s28 (by decide)
      show xe none 103 177 [(0, .ref 0), (1, vi 7)] [] s28 0 0 _
      refine x_A k103_177 (fun _ => rfl) ?_
      refine x_getR k103_178 (f := 9) rfl (q := 0) (n := 12) (kd := 3) ⟨by decide, rfl⟩ (q2 := 243) (by decide) rfl ?_
      refine x_A k103_181 (fun _ => rfl) ?_
      refine x_getR k103_182 (f := 5) rfl (q := 0) (n := 12) (kd := 3) ⟨by decide, rfl⟩ (q2 := 209) (by decide) rfl ?_
      refine x_callV k103_185 (y := 86) (n := 1) (w0 := 0) (w1 := 1) (as := [.ref 209]) (rest := []) (by decide +kernel) (q := 243) (nq := 13) (kq := 13) ⟨by decide, rfl⟩ rfl rfl rfl rfl (xe_mono (C_X8_countLacking_243_209 s28 hG_s28) ?_)
      rintro s31 v ⟨-, t_s31, z30, rfl, g_z30⟩
      rw [t_s31.nil]
      show xe none 103 188 [(0, .ref 0), (1, vi 7)] [vi z30] s28 0 0 _
      exact x_iret k103_188 rfl ⟨hG_s28, f_s28, z30, rfl, (by first | exact x_rbe e_z30 g_z30 rfl rfl | exact x_rb g_z30 rfl rfl | exact ⟨by omega, by omega⟩), VCj_s28⟩
    · rw [c4]
      refine x_B k103_15 rfl (fun _ => rfl) (fun _ => rfl) (fun _ _ => rfl) ?_
      show xe none 103 189 [(0, .ref 0), (1, vi 8)] [] s0 0 0 _
      refine x_A k103_189 (fun _ => rfl) ?_
      refine x_getR k103_190 (f := 4) rfl (q := 0) (n := 12) (kd := 3) ⟨by decide, rfl⟩ (q2 := 179) (by decide) rfl ?_
      refine x_getI k103_193 (f := 5) rfl (q := 179) (n := 6) (kd := 8) ⟨by decide, rfl⟩ (by decide) rfl ?_
      refine x_top (fun z32 e_z32 => ?_)
      have g_z32 : (0 : Int) ≤ s0 179 5 ∧ s0 179 5 ≤ 8 := hG0 179 5
      exact x_iret k103_196 rfl ⟨hG0, f0, z32, rfl, (by first | exact x_rbe e_z32 g_z32 rfl rfl | exact x_rb g_z32 rfl rfl | exact ⟨by omega, by omega⟩), i0_VCj⟩
    · rw [c4]
      refine x_B k103_15 rfl (fun _ => rfl) (fun _ => rfl) (fun _ _ => rfl) ?_
      show xe none 103 197 [(0, .ref 0), (1, vi 9)] [] s0 0 0 _
      refine x_A k103_197 (fun _ => rfl) ?_
      refine x_getR k103_198 (f := 3) rfl (q := 0) (n := 12) (kd := 3) ⟨by decide, rfl⟩ (q2 := 177) (by decide) rfl ?_
      refine x_getI k103_201 (f := 1) rfl (q := 177) (n := 7) (kd := 7) ⟨by decide, rfl⟩ (by decide) rfl ?_
      refine x_top (fun z33 e_z33 => ?_)
      have g_z33 : (0 : Int) ≤ s0 177 1 ∧ s0 177 1 ≤ 160 := hG0 177 1
      exact x_iret k103_204 rfl ⟨hG0, f0, z33, rfl, (by first | exact x_rbe e_z33 g_z33 rfl rfl | exact x_rb g_z33 rfl rfl | exact ⟨by omega, by omega⟩), i0_VCj⟩
    · rw [c4]
      refine x_B k103_15 rfl (fun _ => rfl) (fun _ => rfl) (fun _ _ => rfl) ?_
      show xe none 103 205 [(0, .ref 0), (1, vi 10)] [] s0 0 0 _
      refine x_A k103_205 (fun _ => rfl) ?_
      refine x_getR k103_206 (f := 6) rfl (q := 0) (n := 12) (kd := 3) ⟨by decide, rfl⟩ (q2 := 214) (by decide) rfl ?_
      refine x_getI k103_209 (f := 3) rfl (q := 214) (n := 4) (kd := 10) ⟨by decide, rfl⟩ (by decide) rfl ?_
      refine x_top (fun z34 e_z34 => ?_)
      have g_z34 : (0 : Int) ≤ s0 214 3 ∧ s0 214 3 ≤ 60 := hG0 214 3
      exact x_iret k103_212 rfl ⟨hG0, f0, z34, rfl, (by first | exact x_rbe e_z34 g_z34 rfl rfl | exact x_rb g_z34 rfl rfl | exact ⟨by omega, by omega⟩), i0_VCj⟩
    · rw [c4]
      refine x_B k103_15 rfl (fun _ => rfl) (fun _ => rfl) (fun _ _ => rfl) ?_
      show xe none 103 213 [(0, .ref 0), (1, vi 11)] [] s0 0 0 _
      refine x_A k103_213 (fun _ => rfl) ?_
      refine x_getR k103_214 (f := 7) rfl (q := 0) (n := 12) (kd := 3) ⟨by decide, rfl⟩ (q2 := 218) (by decide) rfl ?_
      refine x_getI k103_217 (f := 6) rfl (q := 218) (n := 7) (kd := 11) ⟨by decide, rfl⟩ (by decide) rfl ?_
      refine x_top (fun z35 e_z35 => ?_)
      have g_z35 : (0 : Int) ≤ s0 218 6 ∧ s0 218 6 ≤ 8 := hG0 218 6
      exact x_iret k103_220 rfl ⟨hG0, f0, z35, rfl, (by first | exact x_rbe e_z35 g_z35 rfl rfl | exact x_rb g_z35 rfl rfl | exact ⟨by omega, by omega⟩), i0_VCj⟩
    · refine x_tabD k103_15 ⟨by omega, by omega⟩ c4 (t0 := 221) rfl ?_
      refine x_A k103_221 (fun _ => rfl) ?_
      refine x_getR k103_222 (f := 8) rfl (q := 0) (n := 12) (kd := 3) ⟨by decide, rfl⟩ (q2 := 231) (by decide) rfl ?_
      refine x_getI k103_225 (f := 3) rfl (q := 231) (n := 4) (kd := 12) ⟨by decide, rfl⟩ (by decide) rfl ?_
      refine x_top (fun z36 e_z36 => ?_)
      have g_z36 : (0 : Int) ≤ s0 231 3 ∧ s0 231 3 ≤ 4 := hG0 231 3
      exact x_iret k103_228 rfl ⟨hG0, f0, z36, rfl, (by first | exact x_rbe e_z36 g_z36 rfl rfl | exact x_rb g_z36 rfl rfl | exact ⟨by omega, by omega⟩), i0_VCj⟩
  · rw [e_z1]
    show xe none 103 7 [(0, .ref 0), (1, vi a)] [vi 0] s0 0 0 _
    refine x_if_ne k103_7 (t := 14) rfl ⟨by decide, by decide⟩ (fun c37 => by exfalso; omega) (fun c37 => ?_)
    refine x_sipush k103_10 (by decide +kernel) ?_
    exact x_iret k103_13 rfl ⟨hG0, f0, (-1002), rfl, ⟨by decide, by decide⟩, i0_VCj⟩
set_option maxHeartbeats 8000000 in
theorem V_X10_met_0 (s0 : xS) (hG0 : GI s0) (hJ0 : J s0) (a : Int) (b_a : (-2147483648) ≤ a ∧ a ≤ 2147483647) (b : Int) (b_b : (-2147483648) ≤ b ∧ b ≤ 2147483647) (d : Int) (b_d : (-2147483648) ≤ d ∧ d ≤ 2147483647) (pR : R1 s0) (i0_VCj : VCj s0) : xe none 111 0 (lv_args 0 [.ref 0, vi a, vi b, vi d]) [] s0 0 0 (fun s' v => GI s' ∧ FL [3329, 3334, 3335, 3336, 3392, 3456, 3520, 3584, 3276, 3648, 3712, 3776, 3840, 3904, 3968, 3277, 4032, 2752] s0 s' ∧ ∃ z, v = some (vi z) ∧ ((-1004) ≤ z ∧ z ≤ 127) ∧ VCj s') := by
  have f0 : FL [3329, 3334, 3335, 3336, 3392, 3456, 3520, 3584, 3276, 3648, 3712, 3776, 3840, 3904, 3968, 3277, 4032, 2752] s0 s0 := FL.rf
  show xe none 111 0 [(0, .ref 0), (1, vi a), (2, vi b), (3, vi d)] [] s0 0 0 _
  refine x_A k111_0 (fun _ => rfl) ?_
  refine x_getR k111_1 (f := 7) rfl (q := 0) (n := 12) (kd := 3) ⟨by decide, rfl⟩ (q2 := 218) (by decide) rfl ?_
  refine x_A k111_4 (fun _ => rfl) ?_
  obtain ⟨z1, e_z1⟩ : ∃ z, z = s0 218 6 := ⟨_, rfl⟩
  have g_z1 : (0 : Int) ≤ s0 218 6 ∧ s0 218 6 ≤ 8 := hG0 218 6
  refine x_callV k111_5 (y := 1) (n := 1) (w0 := 0) (w1 := 1) (as := [vi a]) (rest := []) (by decide +kernel) (q := 218) (nq := 7) (kq := 11) ⟨by decide, rfl⟩ rfl rfl rfl rfl (xe_mono (C_X0_has_218 s0 hG0 a (by first | exact x_rb b_a rfl rfl | exact ⟨by omega, by omega⟩)) ?_)
  rintro s3 v ⟨h_s3, z2, rfl, hz_z2⟩
  rw [h_s3]
  rcases hz_z2 with ⟨c_z2, e_z2⟩ | ⟨c_z2, e_z2⟩
  · rw [e_z2]
    show xe none 111 8 [(0, .ref 0), (1, vi a), (2, vi b), (3, vi d)] [vi 1] s0 0 0 _
    refine x_if_ne k111_8 (t := 15) rfl ⟨by decide, by decide⟩ (fun c4 => ?_) (fun c4 => by exfalso; omega)
    refine x_A k111_15 (fun _ => rfl) ?_
    refine x_A k111_16 (fun _ => rfl) ?_
    obtain ⟨z5, e_z5⟩ : ∃ z, z = s0 0 10 := ⟨_, rfl⟩
    have g_z5 : (0 : Int) ≤ s0 0 10 ∧ s0 0 10 ≤ 9 := hG0 0 10
    refine x_callV k111_17 (y := 125) (n := 1) (w0 := 0) (w1 := 1) (as := [vi b]) (rest := []) (by decide +kernel) (q := 0) (nq := 12) (kq := 3) ⟨by decide, rfl⟩ rfl rfl rfl rfl (xe_mono (C_X10_isKnownEdition_0 s0 hG0 b (by first | exact x_rb b_b rfl rfl | exact ⟨by omega, by omega⟩)) ?_)
    rintro s7 v ⟨h_s7, z6, rfl, hz_z6⟩
    rw [h_s7]
    rcases hz_z6 with ⟨c_z6, e_z6⟩ | ⟨c_z6, e_z6⟩
    · rw [e_z6]
      show xe none 111 20 [(0, .ref 0), (1, vi a), (2, vi b), (3, vi d)] [vi 1] s0 0 0 _
      refine x_if_ne k111_20 (t := 27) rfl ⟨by decide, by decide⟩ (fun c8 => ?_) (fun c8 => by exfalso; omega)
      refine x_A k111_27 (fun _ => rfl) ?_
      refine x_getR k111_28 (f := 9) rfl (q := 0) (n := 12) (kd := 3) ⟨by decide, rfl⟩ (q2 := 243) (by decide) rfl ?_
      refine x_A k111_31 (fun _ => rfl) ?_
      refine x_callV k111_32 (y := 76) (n := 1) (w0 := 0) (w1 := 1) (as := [vi b]) (rest := []) (by decide +kernel) (q := 243) (nq := 13) (kq := 13) ⟨by decide, rfl⟩ rfl rfl rfl rfl (xe_mono (V_X8_lookIn_243 s0 hG0 (hJ0.fl f0 (by decide)) b (by first | exact x_rb b_b rfl rfl | exact ⟨by omega, by omega⟩) (pR.fl f0 (by decide)) i0_VCj) ?_)
      rintro s10 v ⟨hG_s10, t_s10, rfl, VCj_s10⟩
      have f_s10 : FL [3329, 3334, 3335, 3336, 3392, 3456, 3520, 3584, 3276, 3648, 3712, 3776, 3840, 3904, 3968, 3277, 4032, 2752] s0 s10 := f0.tr t_s10 (by decide)
      have q11 : s10 218 6 = z1 := (t_s10 218 6 (show 2503 ∉ [3329, 3334, 3335, 3336, 3392, 3456, 3520, 3584, 3276, 3648, 3712, 3776, 3840, 3904, 3968, 3277, 4032] from by decide)).trans e_z1.symm
      have q12 : s10 0 10 = z5 := (t_s10 0 10 (show 11 ∉ [3329, 3334, 3335, 3336, 3392, 3456, 3520, 3584, 3276, 3648, 3712, 3776, 3840, 3904, 3968, 3277, 4032] from by decide)).trans e_z5.symm
      show xe none 111 35 [(0, .ref 0), (1, vi a), (2, vi b), (3, vi d)] [] s10 0 0 _
      refine x_A k111_35 (fun _ => rfl) ?_
      refine x_A k111_36 (fun _ => rfl) ?_
      refine x_A k111_37 (fun _ => rfl) ?_
      refine x_callV k111_38 (y := 133) (n := 2) (w0 := 0) (w1 := 2) (as := [vi a, vi b]) (rest := []) (by decide +kernel) (q := 0) (nq := 12) (kq := 3) ⟨by decide, rfl⟩ rfl rfl rfl rfl (xe_mono (C_X10_metBy_0 s10 hG_s10 a (by first | exact x_rb b_a rfl rfl | exact ⟨by omega, by omega⟩) b (by first | exact x_rb b_b rfl rfl | exact ⟨by omega, by omega⟩)) ?_)
      rintro s14 v ⟨hG_s14, t_s14, z13, rfl, b_z13⟩
      have f_s14 : FL [3329, 3334, 3335, 3336, 3392, 3456, 3520, 3584, 3276, 3648, 3712, 3776, 3840, 3904, 3968, 3277, 4032, 2752] s0 s14 := f_s10.tr t_s14 (by decide)
      have q15 : s14 218 6 = z1 := (t_s14 218 6 (show 2503 ∉ [2752] from by decide)).trans q11
      have q16 : s14 0 10 = z5 := (t_s14 0 10 (show 11 ∉ [2752] from by decide)).trans q12
      have VCj_s14 : VCj s14 := VCj.fl VCj_s10 hG_s10 t_s14 (by decide)
      show xe none 111 41 [(0, .ref 0), (1, vi a), (2, vi b), (3, vi d)] [vj z13] s14 0 0 _
      refine x_A k111_41 (fun _ => rfl) ?_
      refine x_callS k111_42 (y := 127) (n := 2) (w0 := 0) (w1 := 3) (as := [vj z13, vi d]) (rest := []) (by decide +kernel) rfl rfl rfl rfl (xe_mono (C_X10_pick s14 hG_s14 z13 b_z13 d (by first | exact x_rb b_d rfl rfl | exact ⟨by omega, by omega⟩)) ?_)
      rintro s18 v ⟨-, t_s18, z17, rfl, g_z17⟩
      rw [t_s18.nil]
      show xe none 111 45 [(0, .ref 0), (1, vi a), (2, vi b), (3, vi d)] [vi z17] s14 0 0 _
      exact x_iret k111_45 rfl ⟨hG_s14, f_s14, z17, rfl, (by first | exact x_rbe e_z17 g_z17 rfl rfl | exact x_rb g_z17 rfl rfl | exact ⟨by omega, by omega⟩), VCj_s14⟩
    · rw [e_z6]
      show xe none 111 20 [(0, .ref 0), (1, vi a), (2, vi b), (3, vi d)] [vi 0] s0 0 0 _
      refine x_if_ne k111_20 (t := 27) rfl ⟨by decide, by decide⟩ (fun c19 => by exfalso; omega) (fun c19 => ?_)
      refine x_sipush k111_23 (by decide +kernel) ?_
      exact x_iret k111_26 rfl ⟨hG0, f0, (-1002), rfl, ⟨by decide, by decide⟩, i0_VCj⟩
  · rw [e_z2]
    show xe none 111 8 [(0, .ref 0), (1, vi a), (2, vi b), (3, vi d)] [vi 0] s0 0 0 _
    refine x_if_ne k111_8 (t := 15) rfl ⟨by decide, by decide⟩ (fun c20 => by exfalso; omega) (fun c20 => ?_)
    refine x_sipush k111_11 (by decide +kernel) ?_
    exact x_iret k111_14 rfl ⟨hG0, f0, (-1001), rfl, ⟨by decide, by decide⟩, i0_VCj⟩
