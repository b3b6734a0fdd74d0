set_option maxHeartbeats 8000000 in
theorem V_X10_led_0 (s0 : xS) (hG0 : GI s0) (hJ0 : J s0) (a : Int) (b_a : (-2147483648) ≤ a ∧ a ≤ 2147483647) (b : Int) (b_b : (-2147483648) ≤ b ∧ b ≤ 2147483647) (d : Int) (b_d : (-2147483648) ≤ d ∧ d ≤ 2147483647) (pR : R1 s0) (i0_VCj : VCj s0) (i0_VCl : VCl s0) : xe none 102 0 (lv_args 0 [.ref 0, vi a, vi b, vi d]) [] s0 0 0 (fun s' v => GI s' ∧ FL [3329, 3334, 3335, 3336, 3392, 3456, 3520, 3584, 3276, 3648, 3712, 3776, 3840, 3904, 3968, 3277, 4032] s0 s' ∧ ∃ z, v = some (vi z) ∧ ((-1004) ≤ z ∧ z ≤ 127) ∧ VCj s' ∧ VCl s') := by
  have f0 : FL [3329, 3334, 3335, 3336, 3392, 3456, 3520, 3584, 3276, 3648, 3712, 3776, 3840, 3904, 3968, 3277, 4032] s0 s0 := FL.rf
  show xe none 102 0 [(0, .ref 0), (1, vi a), (2, vi b), (3, vi d)] [] s0 0 0 _
  refine x_A k102_0 (fun _ => rfl) ?_
  refine x_getR k102_1 (f := 1) rfl (q := 0) (n := 12) (kd := 3) ⟨by decide, rfl⟩ (q2 := 46) (by decide) rfl ?_
  refine x_A k102_4 (fun _ => rfl) ?_
  obtain ⟨z566, e_z566⟩ : ∃ z, z = s0 46 3 := ⟨_, rfl⟩
  have g_z566 : (0 : Int) ≤ s0 46 3 ∧ s0 46 3 ≤ 40 := hG0 46 3
  refine x_callV k102_5 (y := 29) (n := 1) (w0 := 0) (w1 := 1) (as := [vi a]) (rest := []) (by decide +kernel) (q := 46) (nq := 4) (kq := 5) ⟨by decide, rfl⟩ rfl rfl rfl rfl (xe_mono (C_X3_has_46 s0 hG0 a (by first | exact x_rb b_a rfl rfl | exact ⟨by omega, by omega⟩)) ?_)
  rintro s568 v ⟨h_s568, z567, rfl, hz_z567⟩
  rw [h_s568]
  rcases hz_z567 with ⟨c_z567, e_z567⟩ | ⟨c_z567, e_z567⟩
  · rw [e_z567]
    show xe none 102 8 [(0, .ref 0), (1, vi a), (2, vi b), (3, vi d)] [vi 1] s0 0 0 _
    refine x_if_eq k102_8 (t := 22) rfl ⟨by decide, by decide⟩ (fun c569 => by exfalso; omega) (fun c569 => ?_)
    refine x_A k102_11 (fun _ => rfl) ?_
    refine x_getR k102_12 (f := 0) rfl (q := 0) (n := 12) (kd := 3) ⟨by decide, rfl⟩ (q2 := 1) (by decide) rfl ?_
    refine x_A k102_15 (fun _ => rfl) ?_
    obtain ⟨z570, e_z570⟩ : ∃ z, z = s0 1 4 := ⟨_, rfl⟩
    have g_z570 : (1 : Int) ≤ s0 1 4 ∧ s0 1 4 ≤ 40 := hG0 1 4
    refine x_callV k102_16 (y := 59) (n := 1) (w0 := 0) (w1 := 1) (as := [vi b]) (rest := []) (by decide +kernel) (q := 1) (nq := 5) (kq := 4) ⟨by decide, rfl⟩ rfl rfl rfl rfl (xe_mono (C_X7_has_1 s0 hG0 b (by first | exact x_rb b_b rfl rfl | exact ⟨by omega, by omega⟩)) ?_)
    rintro s572 v ⟨h_s572, z571, rfl, hz_z571⟩
    rw [h_s572]
    rcases hz_z571 with ⟨c_z571, e_z571⟩ | ⟨c_z571, e_z571⟩
    · rw [e_z571]
      show xe none 102 19 [(0, .ref 0), (1, vi a), (2, vi b), (3, vi d)] [vi 1] s0 0 0 _
      refine x_if_ne k102_19 (t := 26) rfl ⟨by decide, by decide⟩ (fun c573 => ?_) (fun c573 => by exfalso; omega)
      refine x_A k102_26 (fun _ => rfl) ?_
      refine x_A k102_27 (fun _ => rfl) ?_
      obtain ⟨z574, e_z574⟩ : ∃ z, z = s0 0 10 := ⟨_, rfl⟩
      have g_z574 : (0 : Int) ≤ s0 0 10 ∧ s0 0 10 ≤ 9 := hG0 0 10
      refine x_callV k102_28 (y := 125) (n := 1) (w0 := 0) (w1 := 1) (as := [vi d]) (rest := []) (by decide +kernel) (q := 0) (nq := 12) (kq := 3) ⟨by decide, rfl⟩ rfl rfl rfl rfl (xe_mono (C_X10_isKnownEdition_0 s0 hG0 d (by first | exact x_rb b_d rfl rfl | exact ⟨by omega, by omega⟩)) ?_)
      rintro s576 v ⟨h_s576, z575, rfl, hz_z575⟩
      rw [h_s576]
      rcases hz_z575 with ⟨c_z575, e_z575⟩ | ⟨c_z575, e_z575⟩
      · rw [e_z575]
        show xe none 102 31 [(0, .ref 0), (1, vi a), (2, vi b), (3, vi d)] [vi 1] s0 0 0 _
        refine x_if_ne k102_31 (t := 38) rfl ⟨by decide, by decide⟩ (fun c577 => ?_) (fun c577 => by exfalso; omega)
        refine x_A k102_38 (fun _ => rfl) ?_
        refine x_getR k102_39 (f := 9) rfl (q := 0) (n := 12) (kd := 3) ⟨by decide, rfl⟩ (q2 := 243) (by decide) rfl ?_
        refine x_A k102_42 (fun _ => rfl) ?_
        refine x_callV k102_43 (y := 76) (n := 1) (w0 := 0) (w1 := 1) (as := [vi d]) (rest := []) (by decide +kernel) (q := 243) (nq := 13) (kq := 13) ⟨by decide, rfl⟩ rfl rfl rfl rfl (xe_mono (E_X8_lookIn_243 s0 hG0 (hJ0.fl f0 (by decide)) d (by first | exact x_rb b_d rfl rfl | exact ⟨by omega, by omega⟩) (pR.fl f0 (by decide)) i0_VCj i0_VCl) ?_)
        rintro s579 v ⟨hG_s579, t_s579, rfl, xp_z578⟩
        have f_s579 : FL [3329, 3334, 3335, 3336, 3392, 3456, 3520, 3584, 3276, 3648, 3712, 3776, 3840, 3904, 3968, 3277, 4032] s0 s579 := f0.tr t_s579 (by decide)
        have q580 : s579 46 3 = z566 := (t_s579 46 3 (show 452 ∉ [3329, 3334, 3335, 3336, 3392, 3456, 3520, 3584, 3276, 3648, 3712, 3776, 3840, 3904, 3968, 3277, 4032] from by decide)).trans e_z566.symm
        have q581 : s579 1 4 = z570 := (t_s579 1 4 (show 69 ∉ [3329, 3334, 3335, 3336, 3392, 3456, 3520, 3584, 3276, 3648, 3712, 3776, 3840, 3904, 3968, 3277, 4032] from by decide)).trans e_z570.symm
        have q582 : s579 0 10 = z574 := (t_s579 0 10 (show 11 ∉ [3329, 3334, 3335, 3336, 3392, 3456, 3520, 3584, 3276, 3648, 3712, 3776, 3840, 3904, 3968, 3277, 4032] from by decide)).trans e_z574.symm
        obtain ⟨z583, e_z583⟩ : ∃ z, z = s579 243 11 := ⟨_, rfl⟩
        have g_z583 : (0 : Int) ≤ s579 243 11 ∧ s579 243 11 ≤ 1 := hG_s579 243 11
        obtain ⟨z584, e_z584⟩ : ∃ z, z = s579 243 12 := ⟨_, rfl⟩
        have g_z584 : (-1) ≤ s579 243 12 ∧ s579 243 12 ≤ 9 := hG_s579 243 12
        show xe none 102 46 [(0, .ref 0), (1, vi a), (2, vi b), (3, vi d)] [] s579 0 0 _
        have VCj_k : VCj s579 := VCj.judge hG0 t_s579 (by decide) xp_z578.1
        have VCl_k : VCl s579 := VCl.look hG0 t_s579 (by decide) xp_z578.2.1 xp_z578.2.2.1 xp_z578.2.2.2
        refine x_A k102_46 (fun _ => rfl) ?_
        refine x_istore k102_47 (ls' := [(4, vi 0), (0, .ref 0), (1, vi a), (2, vi b), (3, vi d)]) (by decide) rfl ?_
        refine x_ls (l := [(0, .ref 0), (1, vi a), (2, vi b), (3, vi d), (4, vi 0)]) (show ([0, 1, 2, 3, 4] : List Nat).Nodup from by decide) ⟨rfl, rfl, rfl, rfl, rfl, trivial⟩ ?_
        exact L_V_X10_led_0_49 s0 hJ0 a b_a b b_b d b_d pR  (((120 - 0) + 1 : Int)).toNat s579 a b d 0 hG_s579 f_s579 (by first | exact x_rb b_a rfl rfl | exact ⟨by omega, by omega⟩) (by first | exact x_rb b_b rfl rfl | exact ⟨by omega, by omega⟩) (by first | exact x_rb b_d rfl rfl | exact ⟨by omega, by omega⟩) ⟨by decide, by decide⟩ VCj_k VCl_k  (by omega)
      · rw [e_z575]
        show xe none 102 31 [(0, .ref 0), (1, vi a), (2, vi b), (3, vi d)] [vi 0] s0 0 0 _
        refine x_if_ne k102_31 (t := 38) rfl ⟨by decide, by decide⟩ (fun c585 => by exfalso; omega) (fun c585 => ?_)
        refine x_sipush k102_34 (by decide +kernel) ?_
        exact x_iret k102_37 rfl ⟨hG0, f0, (-1002), rfl, ⟨by decide, by decide⟩, i0_VCj, i0_VCl⟩
    · rw [e_z571]
      show xe none 102 19 [(0, .ref 0), (1, vi a), (2, vi b), (3, vi d)] [vi 0] s0 0 0 _
      refine x_if_ne k102_19 (t := 26) rfl ⟨by decide, by decide⟩ (fun c586 => by exfalso; omega) (fun c586 => ?_)
      refine x_sipush k102_22 (by decide +kernel) ?_
      exact x_iret k102_25 rfl ⟨hG0, f0, (-1001), rfl, ⟨by decide, by decide⟩, i0_VCj, i0_VCl⟩
  · rw [e_z567]
    show xe none 102 8 [(0, .ref 0), (1, vi a), (2, vi b), (3, vi d)] [vi 0] s0 0 0 _
    refine x_if_eq k102_8 (t := 22) rfl ⟨by decide, by decide⟩ (fun c587 => ?_) (fun c587 => by exfalso; omega)
    refine x_sipush k102_22 (by decide +kernel) ?_
    exact x_iret k102_25 rfl ⟨hG0, f0, (-1001), rfl, ⟨by decide, by decide⟩, i0_VCj, i0_VCl⟩
set_option maxHeartbeats 8000000 in
theorem V_X10_count_0 (s0 : xS) (hG0 : GI s0) (hJ0 : J s0) (a : Int) (b_a : (-2147483648) ≤ a ∧ a ≤ 2147483647) (pR : R1 s0) (i0_VCj : VCj s0) (i0_VCl : VCl s0) : xe none 103 0 (lv_args 0 [.ref 0, vi a]) [] s0 0 0 (fun s' v => GI s' ∧ FL [3329, 3334, 3335, 3336, 3392, 3456, 3520, 3584, 3276, 3648, 3712, 3776, 3840, 3904, 3968, 3277, 4032, 1921, 1926, 1927, 1928, 1984, 2048, 2112, 2176] s0 s' ∧ ∃ z, v = some (vi z) ∧ ((-1004) ≤ z ∧ z ≤ 160) ∧ VCj s' ∧ VCl s') := by
  have f0 : FL [3329, 3334, 3335, 3336, 3392, 3456, 3520, 3584, 3276, 3648, 3712, 3776, 3840, 3904, 3968, 3277, 4032, 1921, 1926, 1927, 1928, 1984, 2048, 2112, 2176] s0 s0 := FL.rf
  show xe none 103 0 [(0, .ref 0), (1, vi a)] [] s0 0 0 _
  refine x_A k103_0 (fun _ => rfl) ?_
  refine x_A k103_1 (fun _ => rfl) ?_
  refine x_bipush k103_2 (by decide +kernel) ?_
  refine x_callS k103_4 (y := 121) (n := 3) (w0 := 0) (w1 := 3) (as := [vi a, vi 0, vi 12]) (rest := []) (by decide +kernel) rfl rfl rfl rfl (xe_mono (C_X10_isWithin s0 hG0 a (by first | exact x_rb b_a rfl rfl | exact ⟨by omega, by omega⟩) 0 ⟨by decide, by decide⟩ 12 ⟨by decide, by decide⟩) ?_)
  rintro s2 v ⟨h_s2, z1, rfl, hz_z1⟩
  rw [h_s2]
  rcases hz_z1 with ⟨c_z1, e_z1⟩ | ⟨c_z1, e_z1⟩
  · rw [e_z1]
    show xe none 103 7 [(0, .ref 0), (1, vi a)] [vi 1] s0 0 0 _
    refine x_if_ne k103_7 (t := 14) rfl ⟨by decide, by decide⟩ (fun c3 => ?_) (fun c3 => by exfalso; omega)
    refine x_A k103_14 (fun _ => rfl) ?_
    have c4 : a = 0 ∨ a = 1 ∨ a = 2 ∨ a = 3 ∨ a = 4 ∨ a = 5 ∨ a = 6 ∨ a = 7 ∨ a = 8 ∨ a = 9 ∨ a = 10 ∨ a = 11 ∨ ¬ (0 ≤ a ∧ a ≤ 11) := by omega
    rcases c4 with c4 | c4 | c4 | c4 | c4 | c4 | c4 | c4 | c4 | c4 | c4 | c4 | c4
    · rw [c4]
      refine x_B k103_15 rfl (fun _ => rfl) (fun _ => rfl) (fun _ _ => rfl) ?_
      show xe none 103 76 [(0, .ref 0), (1, vi 0)] [] s0 0 0 _
      refine x_A k103_76 (fun _ => rfl) ?_
      refine x_getI k103_77 (f := 10) rfl (q := 0) (n := 12) (kd := 3) ⟨by decide, rfl⟩ (by decide) rfl ?_
      refine x_top (fun z5 e_z5 => ?_)
      have g_z5 : (0 : Int) ≤ s0 0 10 ∧ s0 0 10 ≤ 9 := hG0 0 10
      exact x_iret k103_80 rfl ⟨hG0, f0, z5, rfl, (by first | exact x_rbe e_z5 g_z5 rfl rfl | exact x_rb g_z5 rfl rfl | exact ⟨by omega, by omega⟩), i0_VCj, i0_VCl⟩
    · rw [c4]
      refine x_B k103_15 rfl (fun _ => rfl) (fun _ => rfl) (fun _ _ => rfl) ?_
      show xe none 103 81 [(0, .ref 0), (1, vi 1)] [] s0 0 0 _
      refine x_A k103_81 (fun _ => rfl) ?_
      refine x_getR k103_82 (f := 0) rfl (q := 0) (n := 12) (kd := 3) ⟨by decide, rfl⟩ (q2 := 1) (by decide) rfl ?_
      refine x_getI k103_85 (f := 4) rfl (q := 1) (n := 5) (kd := 4) ⟨by decide, rfl⟩ (by decide) rfl ?_
      refine x_top (fun z6 e_z6 => ?_)
      have g_z6 : (1 : Int) ≤ s0 1 4 ∧ s0 1 4 ≤ 40 := hG0 1 4
      exact x_iret k103_88 rfl ⟨hG0, f0, z6, rfl, (by first | exact x_rbe e_z6 g_z6 rfl rfl | exact x_rb g_z6 rfl rfl | exact ⟨by omega, by omega⟩), i0_VCj, i0_VCl⟩
    · rw [c4]
      refine x_B k103_15 rfl (fun _ => rfl) (fun _ => rfl) (fun _ _ => rfl) ?_
      show xe none 103 89 [(0, .ref 0), (1, vi 2)] [] s0 0 0 _
      refine x_A k103_89 (fun _ => rfl) ?_
      refine x_getR k103_90 (f := 0) rfl (q := 0) (n := 12) (kd := 3) ⟨by decide, rfl⟩ (q2 := 1) (by decide) rfl ?_
      refine x_A k103_93 (fun _ => rfl) ?_
      refine x_getI k103_94 (f := 10) rfl (q := 0) (n := 12) (kd := 3) ⟨by decide, rfl⟩ (by decide) rfl ?_
      refine x_top (fun z7 e_z7 => ?_)
      have g_z7 : (0 : Int) ≤ s0 0 10 ∧ s0 0 10 ≤ 9 := hG0 0 10
      refine x_callV k103_97 (y := 68) (n := 1) (w0 := 0) (w1 := 1) (as := [vi z7]) (rest := []) (by decide +kernel) (q := 1) (nq := 5) (kq := 4) ⟨by decide, rfl⟩ rfl rfl rfl rfl (xe_mono (C_X7_countThere_1 s0 hG0 z7 (by first | exact x_rbe e_z7 g_z7 rfl rfl | exact x_rb g_z7 rfl rfl | exact ⟨by omega, by omega⟩)) ?_)
      rintro s9 v ⟨-, t_s9, z8, rfl, g_z8⟩
      rw [t_s9.nil]
      show xe none 103 100 [(0, .ref 0), (1, vi 2)] [vi z8] s0 0 0 _
      exact x_iret k103_100 rfl ⟨hG0, f0, z8, rfl, (by first | exact x_rbe e_z8 g_z8 rfl rfl | exact x_rb g_z8 rfl rfl | exact ⟨by omega, by omega⟩), i0_VCj, i0_VCl⟩
    · rw [c4]
      refine x_B k103_15 rfl (fun _ => rfl) (fun _ => rfl) (fun _ _ => rfl) ?_
      show xe none 103 101 [(0, .ref 0), (1, vi 3)] [] s0 0 0 _
      refine x_A k103_101 (fun _ => rfl) ?_
      refine x_getR k103_102 (f := 1) rfl (q := 0) (n := 12) (kd := 3) ⟨by decide, rfl⟩ (q2 := 46) (by decide) rfl ?_
      refine x_getI k103_105 (f := 3) rfl (q := 46) (n := 4) (kd := 5) ⟨by decide, rfl⟩ (by decide) rfl ?_
      refine x_top (fun z10 e_z10 => ?_)
      have g_z10 : (0 : Int) ≤ s0 46 3 ∧ s0 46 3 ≤ 40 := hG0 46 3
      exact x_iret k103_108 rfl ⟨hG0, f0, z10, rfl, (by first | exact x_rbe e_z10 g_z10 rfl rfl | exact x_rb g_z10 rfl rfl | exact ⟨by omega, by omega⟩), i0_VCj, i0_VCl⟩
    · rw [c4]
      refine x_B k103_15 rfl (fun _ => rfl) (fun _ => rfl) (fun _ _ => rfl) ?_
      show xe none 103 109 [(0, .ref 0), (1, vi 4)] [] s0 0 0 _
      refine x_A k103_109 (fun _ => rfl) ?_
      refine x_getR k103_110 (f := 2) rfl (q := 0) (n := 12) (kd := 3) ⟨by decide, rfl⟩ (q2 := 50) (by decide) rfl ?_
      refine x_getI k103_113 (f := 6) rfl (q := 50) (n := 7) (kd := 6) ⟨by decide, rfl⟩ (by decide) rfl ?_
      refine x_top (fun z11 e_z11 => ?_)
      have g_z11 : (0 : Int) ≤ s0 50 6 ∧ s0 50 6 ≤ 120 := hG0 50 6
      exact x_iret k103_116 rfl ⟨hG0, f0, z11, rfl, (by first | exact x_rbe e_z11 g_z11 rfl rfl | exact x_rb g_z11 rfl rfl | exact ⟨by omega, by omega⟩), i0_VCj, i0_VCl⟩
    · rw [c4]
      refine x_B k103_15 rfl (fun _ => rfl) (fun _ => rfl) (fun _ _ => rfl) ?_
      show xe none 103 117 [(0, .ref 0), (1, vi 5)] [] s0 0 0 _
      refine x_A k103_117 (fun _ => rfl) ?_
      refine x_getR k103_118 (f := 9) rfl (q := 0) (n := 12) (kd := 3) ⟨by decide, rfl⟩ (q2 := 243) (by decide) rfl ?_
      refine x_callV k103_121 (y := 74) (n := 0) (w0 := 0) (w1 := 0) (as := []) (rest := []) (by decide +kernel) (q := 243) (nq := 13) (kq := 13) ⟨by decide, rfl⟩ rfl rfl rfl rfl (xe_mono (E_X8_judge_243 s0 hG0 (hJ0.fl f0 (by decide)) (pR.fl f0 (by decide)) i0_VCj) ?_)
      rintro s13 v ⟨hG_s13, t_s13, rfl, xp_z12⟩
      have f_s13 : FL [3329, 3334, 3335, 3336, 3392, 3456, 3520, 3584, 3276, 3648, 3712, 3776, 3840, 3904, 3968, 3277, 4032, 1921, 1926, 1927, 1928, 1984, 2048, 2112, 2176] s0 s13 := f0.tr t_s13 (by decide)
      obtain ⟨z14, e_z14⟩ : ∃ z, z = s13 243 11 := ⟨_, rfl⟩
      have g_z14 : (0 : Int) ≤ s13 243 11 ∧ s13 243 11 ≤ 1 := hG_s13 243 11
      show xe none 103 124 [(0, .ref 0), (1, vi 5)] [] s13 0 0 _
      have VCj_d : VCj s13 := VCj.judge hG0 t_s13 (by decide) xp_z12.1
      have VCl_d : VCl s13 := VCl.judge i0_VCl hG0 t_s13 (by decide) xp_z12.2
      refine x_A k103_124 (fun _ => rfl) ?_
      refine x_getR k103_125 (f := 9) rfl (q := 0) (n := 12) (kd := 3) ⟨by decide, rfl⟩ (q2 := 243) (by decide) rfl ?_
      refine x_callV k103_128 (y := 84) (n := 0) (w0 := 0) (w1 := 0) (as := []) (rest := []) (by decide +kernel) (q := 243) (nq := 13) (kq := 13) ⟨by decide, rfl⟩ rfl rfl rfl rfl (xe_mono (C_X8_countWrong_243 s13 hG_s13) ?_)
      rintro s16 v ⟨-, t_s16, z15, rfl, g_z15⟩
      rw [t_s16.nil]
      show xe none 103 131 [(0, .ref 0), (1, vi 5)] [vi z15] s13 0 0 _
      exact x_iret k103_131 rfl ⟨hG_s13, f_s13, z15, rfl, (by first | exact x_rbe e_z15 g_z15 rfl rfl | exact x_rb g_z15 rfl rfl | exact ⟨by omega, by omega⟩), VCj_d, VCl_d⟩
    · rw [c4]
      refine x_B k103_15 rfl (fun _ => rfl) (fun _ => rfl) (fun _ _ => rfl) ?_
      show xe none 103 132 [(0, .ref 0), (1, vi 6)] [] s0 0 0 _
      refine x_A k103_132 (fun _ => rfl) ?_
      refine x_getR k103_133 (f := 9) rfl (q := 0) (n := 12) (kd := 3) ⟨by decide, rfl⟩ (q2 := 243) (by decide) rfl ?_
      refine x_A k103_136 (fun _ => rfl) ?_
      refine x_getI k103_137 (f := 10) rfl (q := 0) (n := 12) (kd := 3) ⟨by decide, rfl⟩ (by decide) rfl ?_
      refine x_top (fun z17 e_z17 => ?_)
      have g_z17 : (0 : Int) ≤ s0 0 10 ∧ s0 0 10 ≤ 9 := hG0 0 10
      refine x_callV k103_140 (y := 76) (n := 1) (w0 := 0) (w1 := 1) (as := [vi z17]) (rest := []) (by decide +kernel) (q := 243) (nq := 13) (kq := 13) ⟨by decide, rfl⟩ rfl rfl rfl rfl (xe_mono (E_X8_lookIn_243 s0 hG0 (hJ0.fl f0 (by decide)) z17 (by first | exact x_rbe e_z17 g_z17 rfl rfl | exact x_rb g_z17 rfl rfl | exact ⟨by omega, by omega⟩) (pR.fl f0 (by decide)) i0_VCj i0_VCl) ?_)
      rintro s19 v ⟨hG_s19, t_s19, rfl, xp_z18⟩
      have f_s19 : FL [3329, 3334, 3335, 3336, 3392, 3456, 3520, 3584, 3276, 3648, 3712, 3776, 3840, 3904, 3968, 3277, 4032, 1921, 1926, 1927, 1928, 1984, 2048, 2112, 2176] s0 s19 := f0.tr t_s19 (by decide)
      have q20 : s19 0 10 = z17 := (t_s19 0 10 (show 11 ∉ [3329, 3334, 3335, 3336, 3392, 3456, 3520, 3584, 3276, 3648, 3712, 3776, 3840, 3904, 3968, 3277, 4032] from by decide)).trans e_z17.symm
      obtain ⟨z21, e_z21⟩ : ∃ z, z = s19 243 11 := ⟨_, rfl⟩
      have g_z21 : (0 : Int) ≤ s19 243 11 ∧ s19 243 11 ≤ 1 := hG_s19 243 11
      obtain ⟨z22, e_z22⟩ : ∃ z, z = s19 243 12 := ⟨_, rfl⟩
      have g_z22 : (-1) ≤ s19 243 12 ∧ s19 243 12 ≤ 9 := hG_s19 243 12
      show xe none 103 143 [(0, .ref 0), (1, vi 6)] [] s19 0 0 _
      have VCj_k : VCj s19 := VCj.judge hG0 t_s19 (by decide) xp_z18.1
      have VCl_k : VCl s19 := VCl.look hG0 t_s19 (by decide) xp_z18.2.1 xp_z18.2.2.1 xp_z18.2.2.2
      refine x_A k103_143 (fun _ => rfl) ?_
      refine x_getR k103_144 (f := 9) rfl (q := 0) (n := 12) (kd := 3) ⟨by decide, rfl⟩ (q2 := 243) (by decide) rfl ?_
      refine x_callV k103_147 (y := 85) (n := 0) (w0 := 0) (w1 := 0) (as := []) (rest := []) (by decide +kernel) (q := 243) (nq := 13) (kq := 13) ⟨by decide, rfl⟩ rfl rfl rfl rfl (xe_mono (C_X8_countNeedingLook_243 s19 hG_s19) ?_)
      rintro s24 v ⟨-, t_s24, z23, rfl, g_z23⟩
      rw [t_s24.nil]
      show xe none 103 150 [(0, .ref 0), (1, vi 6)] [vi z23] s19 0 0 _
      exact x_iret k103_150 rfl ⟨hG_s19, f_s19, z23, rfl, (by first | exact x_rbe e_z23 g_z23 rfl rfl | exact x_rb g_z23 rfl rfl | exact ⟨by omega, by omega⟩), VCj_k, VCl_k⟩
    · rw [c4]
      refine x_B k103_15 rfl (fun _ => rfl) (fun _ => rfl) (fun _ _ => rfl) ?_
      show xe none 103 151 [(0, .ref 0), (1, vi 7)] [] s0 0 0 _
      refine x_A k103_151 (fun _ => rfl) ?_
      refine x_getR k103_152 (f := 9) rfl (q := 0) (n := 12) (kd := 3) ⟨by decide, rfl⟩ (q2 := 243) (by decide) rfl ?_
      refine x_A k103_155 (fun _ => rfl) ?_
      refine x_getI k103_156 (f := 10) rfl (q := 0) (n := 12) (kd := 3) ⟨by decide, rfl⟩ (by decide) rfl ?_
      refine x_top (fun z25 e_z25 => ?_)
      have g_z25 : (0 : Int) ≤ s0 0 10 ∧ s0 0 10 ≤ 9 := hG0 0 10
      refine x_callV k103_159 (y := 76) (n := 1) (w0 := 0) (w1 := 1) (as := [vi z25]) (rest := []) (by decide +kernel) (q := 243) (nq := 13) (kq := 13) ⟨by decide, rfl⟩ rfl rfl rfl rfl (xe_mono (E_X8_lookIn_243 s0 hG0 (hJ0.fl f0 (by decide)) z25 (by first | exact x_rbe e_z25 g_z25 rfl rfl | exact x_rb g_z25 rfl rfl | exact ⟨by omega, by omega⟩) (pR.fl f0 (by decide)) i0_VCj i0_VCl) ?_)
      rintro s27 v ⟨hG_s27, t_s27, rfl, xp_z26⟩
      have f_s27 : FL [3329, 3334, 3335, 3336, 3392, 3456, 3520, 3584, 3276, 3648, 3712, 3776, 3840, 3904, 3968, 3277, 4032, 1921, 1926, 1927, 1928, 1984, 2048, 2112, 2176] s0 s27 := f0.tr t_s27 (by decide)
      have q28 : s27 0 10 = z25 := (t_s27 0 10 (show 11 ∉ [3329, 3334, 3335, 3336, 3392, 3456, 3520, 3584, 3276, 3648, 3712, 3776, 3840, 3904, 3968, 3277, 4032] from by decide)).trans e_z25.symm
      obtain ⟨z29, e_z29⟩ : ∃ z, z = s27 243 11 := ⟨_, rfl⟩
      have g_z29 : (0 : Int) ≤ s27 243 11 ∧ s27 243 11 ≤ 1 := hG_s27 243 11
      obtain ⟨z30, e_z30⟩ : ∃ z, z = s27 243 12 := ⟨_, rfl⟩
      have g_z30 : (-1) ≤ s27 243 12 ∧ s27 243 12 ≤ 9 := hG_s27 243 12
      show xe none 103 162 [(0, .ref 0), (1, vi 7)] [] s27 0 0 _
      have VCj_k : VCj s27 := VCj.judge hG0 t_s27 (by decide) xp_z26.1
      have VCl_k : VCl s27 := VCl.look hG0 t_s27 (by decide) xp_z26.2.1 xp_z26.2.2.1 xp_z26.2.2.2
      refine x_A k103_162 (fun _ => rfl) ?_
      refine x_getR k103_163 (f := 5) rfl (q := 0) (n := 12) (kd := 3) ⟨by decide, rfl⟩ (q2 := 209) (by decide) rfl ?_
      refine x_A k103_166 (fun _ => rfl) ?_
      refine x_getR k103_167 (f := 4) rfl (q := 0) (n := 12) (kd := 3) ⟨by decide, rfl⟩ (q2 := 179) (by decide) rfl ?_
      refine x_A k103_170 (fun _ => rfl) ?_
      refine x_getI k103_171 (f := 10) rfl (q := 0) (n := 12) (kd := 3) ⟨by decide, rfl⟩ (by decide) rfl ?_
      rw [q28]
      refine x_callV k103_174 (y := 16) (n := 2) (w0 := 0) (w1 := 2) (as := [.ref 179, vi z25]) (rest := []) (by decide +kernel) (q := 209) (nq := 8) (kq := 9) ⟨by decide, rfl⟩ rfl rfl rfl rfl (xe_mono (E_X1_setTo_209_179 s27 hG_s27 (hJ0.fl f_s27 (by decide)) z25 (by first | exact x_rbe e_z25 g_z25 rfl rfl | exact x_rb g_z25 rfl rfl | exact ⟨by omega, by omega⟩) (pR.fl f_s27 (by decide))) ?_)
      rintro s32 v ⟨hG_s32, t_s32, rfl, xp_z31⟩
      have f_s32 : FL [3329, 3334, 3335, 3336, 3392, 3456, 3520, 3584, 3276, 3648, 3712, 3776, 3840, 3904, 3968, 3277, 4032, 1921, 1926, 1927, 1928, 1984, 2048, 2112, 2176] s0 s32 := f_s27.tr t_s32 (by decide)
      have q33 : s32 0 10 = z25 := (t_s32 0 10 (show 11 ∉ [1921, 1926, 1927, 1928, 1984, 2048, 2112, 2176] from by decide)).trans q28
      have q34 : s32 243 11 = z29 := (t_s32 243 11 (show 3276 ∉ [1921, 1926, 1927, 1928, 1984, 2048, 2112, 2176] from by decide)).trans e_z29.symm
      have q35 : s32 243 12 = z30 := (t_s32 243 12 (show 3277 ∉ [1921, 1926, 1927, 1928, 1984, 2048, 2112, 2176] from by decide)).trans e_z30.symm
      have VCj_s32 : VCj s32 := VCj.fl VCj_k hG_s27 t_s32 (by decide)
      have VCl_s32 : VCl s32 := VCl.fl VCl_k hG_s27 t_s32 (by decide)
      show xe none 103 177 [(0, .ref 0), (1, vi 7)] [] s32 0 0 _
      refine x_A k103_177 (fun _ => rfl) ?_
      refine x_getR k103_178 (f := 9) rfl (q := 0) (n := 12) (kd := 3) ⟨by decide, rfl⟩ (q2 := 243) (by decide) rfl ?_
      refine x_A k103_181 (fun _ => rfl) ?_
      refine x_getR k103_182 (f := 5) rfl (q := 0) (n := 12) (kd := 3) ⟨by decide, rfl⟩ (q2 := 209) (by decide) rfl ?_
      refine x_callV k103_185 (y := 86) (n := 1) (w0 := 0) (w1 := 1) (as := [.ref 209]) (rest := []) (by decide +kernel) (q := 243) (nq := 13) (kq := 13) ⟨by decide, rfl⟩ rfl rfl rfl rfl (xe_mono (C_X8_countLacking_243_209 s32 hG_s32) ?_)
      rintro s37 v ⟨-, t_s37, z36, rfl, g_z36⟩
      rw [t_s37.nil]
      show xe none 103 188 [(0, .ref 0), (1, vi 7)] [vi z36] s32 0 0 _
      exact x_iret k103_188 rfl ⟨hG_s32, f_s32, z36, rfl, (by first | exact x_rbe e_z36 g_z36 rfl rfl | exact x_rb g_z36 rfl rfl | exact ⟨by omega, by omega⟩), VCj_s32, VCl_s32⟩
    · rw [c4]
      refine x_B k103_15 rfl (fun _ => rfl) (fun _ => rfl) (fun _ _ => rfl) ?_
      show xe none 103 189 [(0, .ref 0), (1, vi 8)] [] s0 0 0 _
      refine x_A k103_189 (fun _ => rfl) ?_
      refine x_getR k103_190 (f := 4) rfl (q := 0) (n := 12) (kd := 3) ⟨by decide, rfl⟩ (q2 := 179) (by decide) rfl ?_
      refine x_getI k103_193 (f := 5) rfl (q := 179) (n := 6) (kd := 8) ⟨by decide, rfl⟩ (by decide) rfl ?_
      refine x_top (fun z38 e_z38 => ?_)
      have g_z38 : (0 : Int) ≤ s0 179 5 ∧ s0 179 5 ≤ 8 := hG0 179 5
      exact x_iret k103_196 rfl ⟨hG0, f0, z38, rfl, (by first | exact x_rbe e_z38 g_z38 rfl rfl | exact x_rb g_z38 rfl rfl | exact ⟨by omega, by omega⟩), i0_VCj, i0_VCl⟩
    · rw [c4]
      refine x_B k103_15 rfl (fun _ => rfl) (fun _ => rfl) (fun _ _ => rfl) ?_
      show xe none 103 197 [(0, .ref 0), (1, vi 9)] [] s0 0 0 _
      refine x_A k103_197 (fun _ => rfl) ?_
      refine x_getR k103_198 (f := 3) rfl (q := 0) (n := 12) (kd := 3) ⟨by decide, rfl⟩ (q2 := 177) (by decide) rfl ?_
      refine x_getI k103_201 (f := 1) rfl (q := 177) (n := 7) (kd := 7) ⟨by decide, rfl⟩ (by decide) rfl ?_
      refine x_top (fun z39 e_z39 => ?_)
      have g_z39 : (0 : Int) ≤ s0 177 1 ∧ s0 177 1 ≤ 160 := hG0 177 1
      exact x_iret k103_204 rfl ⟨hG0, f0, z39, rfl, (by first | exact x_rbe e_z39 g_z39 rfl rfl | exact x_rb g_z39 rfl rfl | exact ⟨by omega, by omega⟩), i0_VCj, i0_VCl⟩
    · rw [c4]
      refine x_B k103_15 rfl (fun _ => rfl) (fun _ => rfl) (fun _ _ => rfl) ?_
      show xe none 103 205 [(0, .ref 0), (1, vi 10)] [] s0 0 0 _
      refine x_A k103_205 (fun _ => rfl) ?_
      refine x_getR k103_206 (f := 6) rfl (q := 0) (n := 12) (kd := 3) ⟨by decide, rfl⟩ (q2 := 214) (by decide) rfl ?_
      refine x_getI k103_209 (f := 3) rfl (q := 214) (n := 4) (kd := 10) ⟨by decide, rfl⟩ (by decide) rfl ?_
      refine x_top (fun z40 e_z40 => ?_)
      have g_z40 : (0 : Int) ≤ s0 214 3 ∧ s0 214 3 ≤ 60 := hG0 214 3
      exact x_iret k103_212 rfl ⟨hG0, f0, z40, rfl, (by first | exact x_rbe e_z40 g_z40 rfl rfl | exact x_rb g_z40 rfl rfl | exact ⟨by omega, by omega⟩), i0_VCj, i0_VCl⟩
    · rw [c4]
      refine x_B k103_15 rfl (fun _ => rfl) (fun _ => rfl) (fun _ _ => rfl) ?_
      show xe none 103 213 [(0, .ref 0), (1, vi 11)] [] s0 0 0 _
      refine x_A k103_213 (fun _ => rfl) ?_
      refine x_getR k103_214 (f := 7) rfl (q := 0) (n := 12) (kd := 3) ⟨by decide, rfl⟩ (q2 := 218) (by decide) rfl ?_
      refine x_getI k103_217 (f := 6) rfl (q := 218) (n := 7) (kd := 11) ⟨by decide, rfl⟩ (by decide) rfl ?_
      refine x_top (fun z41 e_z41 => ?_)
      have g_z41 : (0 : Int) ≤ s0 218 6 ∧ s0 218 6 ≤ 8 := hG0 218 6
      exact x_iret k103_220 rfl ⟨hG0, f0, z41, rfl, (by first | exact x_rbe e_z41 g_z41 rfl rfl | exact x_rb g_z41 rfl rfl | exact ⟨by omega, by omega⟩), i0_VCj, i0_VCl⟩
    · refine x_tabD k103_15 ⟨by omega, by omega⟩ c4 (t0 := 221) rfl ?_
      refine x_A k103_221 (fun _ => rfl) ?_
      refine x_getR k103_222 (f := 8) rfl (q := 0) (n := 12) (kd := 3) ⟨by decide, rfl⟩ (q2 := 231) (by decide) rfl ?_
      refine x_getI k103_225 (f := 3) rfl (q := 231) (n := 4) (kd := 12) ⟨by decide, rfl⟩ (by decide) rfl ?_
      refine x_top (fun z42 e_z42 => ?_)
      have g_z42 : (0 : Int) ≤ s0 231 3 ∧ s0 231 3 ≤ 4 := hG0 231 3
      exact x_iret k103_228 rfl ⟨hG0, f0, z42, rfl, (by first | exact x_rbe e_z42 g_z42 rfl rfl | exact x_rb g_z42 rfl rfl | exact ⟨by omega, by omega⟩), i0_VCj, i0_VCl⟩
  · rw [e_z1]
    show xe none 103 7 [(0, .ref 0), (1, vi a)] [vi 0] s0 0 0 _
    refine x_if_ne k103_7 (t := 14) rfl ⟨by decide, by decide⟩ (fun c43 => by exfalso; omega) (fun c43 => ?_)
    refine x_sipush k103_10 (by decide +kernel) ?_
    exact x_iret k103_13 rfl ⟨hG0, f0, (-1002), rfl, ⟨by decide, by decide⟩, i0_VCj, i0_VCl⟩
set_option maxHeartbeats 8000000 in
theorem V_X10_met_0 (s0 : xS) (hG0 : GI s0) (hJ0 : J s0) (a : Int) (b_a : (-2147483648) ≤ a ∧ a ≤ 2147483647) (b : Int) (b_b : (-2147483648) ≤ b ∧ b ≤ 2147483647) (d : Int) (b_d : (-2147483648) ≤ d ∧ d ≤ 2147483647) (pR : R1 s0) (i0_VCj : VCj s0) (i0_VCl : VCl s0) : xe none 111 0 (lv_args 0 [.ref 0, vi a, vi b, vi d]) [] s0 0 0 (fun s' v => GI s' ∧ FL [3329, 3334, 3335, 3336, 3392, 3456, 3520, 3584, 3276, 3648, 3712, 3776, 3840, 3904, 3968, 3277, 4032, 2752] s0 s' ∧ ∃ z, v = some (vi z) ∧ ((-1004) ≤ z ∧ z ≤ 127) ∧ VCj s' ∧ VCl s') := by
  have f0 : FL [3329, 3334, 3335, 3336, 3392, 3456, 3520, 3584, 3276, 3648, 3712, 3776, 3840, 3904, 3968, 3277, 4032, 2752] s0 s0 := FL.rf
  show xe none 111 0 [(0, .ref 0), (1, vi a), (2, vi b), (3, vi d)] [] s0 0 0 _
  refine x_A k111_0 (fun _ => rfl) ?_
  refine x_getR k111_1 (f := 7) rfl (q := 0) (n := 12) (kd := 3) ⟨by decide, rfl⟩ (q2 := 218) (by decide) rfl ?_
  refine x_A k111_4 (fun _ => rfl) ?_
  obtain ⟨z1, e_z1⟩ : ∃ z, z = s0 218 6 := ⟨_, rfl⟩
  have g_z1 : (0 : Int) ≤ s0 218 6 ∧ s0 218 6 ≤ 8 := hG0 218 6
  refine x_callV k111_5 (y := 1) (n := 1) (w0 := 0) (w1 := 1) (as := [vi a]) (rest := []) (by decide +kernel) (q := 218) (nq := 7) (kq := 11) ⟨by decide, rfl⟩ rfl rfl rfl rfl (xe_mono (C_X0_has_218 s0 hG0 a (by first | exact x_rb b_a rfl rfl | exact ⟨by omega, by omega⟩)) ?_)
  rintro s3 v ⟨h_s3, z2, rfl, hz_z2⟩
  rw [h_s3]
  rcases hz_z2 with ⟨c_z2, e_z2⟩ | ⟨c_z2, e_z2⟩
  · rw [e_z2]
    show xe none 111 8 [(0, .ref 0), (1, vi a), (2, vi b), (3, vi d)] [vi 1] s0 0 0 _
    refine x_if_ne k111_8 (t := 15) rfl ⟨by decide, by decide⟩ (fun c4 => ?_) (fun c4 => by exfalso; omega)
    refine x_A k111_15 (fun _ => rfl) ?_
    refine x_A k111_16 (fun _ => rfl) ?_
    obtain ⟨z5, e_z5⟩ : ∃ z, z = s0 0 10 := ⟨_, rfl⟩
    have g_z5 : (0 : Int) ≤ s0 0 10 ∧ s0 0 10 ≤ 9 := hG0 0 10
    refine x_callV k111_17 (y := 125) (n := 1) (w0 := 0) (w1 := 1) (as := [vi b]) (rest := []) (by decide +kernel) (q := 0) (nq := 12) (kq := 3) ⟨by decide, rfl⟩ rfl rfl rfl rfl (xe_mono (C_X10_isKnownEdition_0 s0 hG0 b (by first | exact x_rb b_b rfl rfl | exact ⟨by omega, by omega⟩)) ?_)
    rintro s7 v ⟨h_s7, z6, rfl, hz_z6⟩
    rw [h_s7]
    rcases hz_z6 with ⟨c_z6, e_z6⟩ | ⟨c_z6, e_z6⟩
    · rw [e_z6]
      show xe none 111 20 [(0, .ref 0), (1, vi a), (2, vi b), (3, vi d)] [vi 1] s0 0 0 _
      refine x_if_ne k111_20 (t := 27) rfl ⟨by decide, by decide⟩ (fun c8 => ?_) (fun c8 => by exfalso; omega)
      refine x_A k111_27 (fun _ => rfl) ?_
      refine x_getR k111_28 (f := 9) rfl (q := 0) (n := 12) (kd := 3) ⟨by decide, rfl⟩ (q2 := 243) (by decide) rfl ?_
      refine x_A k111_31 (fun _ => rfl) ?_
      refine x_callV k111_32 (y := 76) (n := 1) (w0 := 0) (w1 := 1) (as := [vi b]) (rest := []) (by decide +kernel) (q := 243) (nq := 13) (kq := 13) ⟨by decide, rfl⟩ rfl rfl rfl rfl (xe_mono (E_X8_lookIn_243 s0 hG0 (hJ0.fl f0 (by decide)) b (by first | exact x_rb b_b rfl rfl | exact ⟨by omega, by omega⟩) (pR.fl f0 (by decide)) i0_VCj i0_VCl) ?_)
      rintro s10 v ⟨hG_s10, t_s10, rfl, xp_z9⟩
      have f_s10 : FL [3329, 3334, 3335, 3336, 3392, 3456, 3520, 3584, 3276, 3648, 3712, 3776, 3840, 3904, 3968, 3277, 4032, 2752] s0 s10 := f0.tr t_s10 (by decide)
      have q11 : s10 218 6 = z1 := (t_s10 218 6 (show 2503 ∉ [3329, 3334, 3335, 3336, 3392, 3456, 3520, 3584, 3276, 3648, 3712, 3776, 3840, 3904, 3968, 3277, 4032] from by decide)).trans e_z1.symm
      have q12 : s10 0 10 = z5 := (t_s10 0 10 (show 11 ∉ [3329, 3334, 3335, 3336, 3392, 3456, 3520, 3584, 3276, 3648, 3712, 3776, 3840, 3904, 3968, 3277, 4032] from by decide)).trans e_z5.symm
      obtain ⟨z13, e_z13⟩ : ∃ z, z = s10 243 11 := ⟨_, rfl⟩
      have g_z13 : (0 : Int) ≤ s10 243 11 ∧ s10 243 11 ≤ 1 := hG_s10 243 11
      obtain ⟨z14, e_z14⟩ : ∃ z, z = s10 243 12 := ⟨_, rfl⟩
      have g_z14 : (-1) ≤ s10 243 12 ∧ s10 243 12 ≤ 9 := hG_s10 243 12
      show xe none 111 35 [(0, .ref 0), (1, vi a), (2, vi b), (3, vi d)] [] s10 0 0 _
      have VCj_k : VCj s10 := VCj.judge hG0 t_s10 (by decide) xp_z9.1
      have VCl_k : VCl s10 := VCl.look hG0 t_s10 (by decide) xp_z9.2.1 xp_z9.2.2.1 xp_z9.2.2.2
      refine x_A k111_35 (fun _ => rfl) ?_
      refine x_A k111_36 (fun _ => rfl) ?_
      refine x_A k111_37 (fun _ => rfl) ?_
      refine x_callV k111_38 (y := 133) (n := 2) (w0 := 0) (w1 := 2) (as := [vi a, vi b]) (rest := []) (by decide +kernel) (q := 0) (nq := 12) (kq := 3) ⟨by decide, rfl⟩ rfl rfl rfl rfl (xe_mono (C_X10_metBy_0 s10 hG_s10 a (by first | exact x_rb b_a rfl rfl | exact ⟨by omega, by omega⟩) b (by first | exact x_rb b_b rfl rfl | exact ⟨by omega, by omega⟩)) ?_)
      rintro s16 v ⟨hG_s16, t_s16, z15, rfl, b_z15⟩
      have f_s16 : FL [3329, 3334, 3335, 3336, 3392, 3456, 3520, 3584, 3276, 3648, 3712, 3776, 3840, 3904, 3968, 3277, 4032, 2752] s0 s16 := f_s10.tr t_s16 (by decide)
      have q17 : s16 218 6 = z1 := (t_s16 218 6 (show 2503 ∉ [2752] from by decide)).trans q11
      have q18 : s16 0 10 = z5 := (t_s16 0 10 (show 11 ∉ [2752] from by decide)).trans q12
      have q19 : s16 243 11 = z13 := (t_s16 243 11 (show 3276 ∉ [2752] from by decide)).trans e_z13.symm
      have q20 : s16 243 12 = z14 := (t_s16 243 12 (show 3277 ∉ [2752] from by decide)).trans e_z14.symm
      have VCj_s16 : VCj s16 := VCj.fl VCj_k hG_s10 t_s16 (by decide)
      have VCl_s16 : VCl s16 := VCl.fl VCl_k hG_s10 t_s16 (by decide)
      show xe none 111 41 [(0, .ref 0), (1, vi a), (2, vi b), (3, vi d)] [vj z15] s16 0 0 _
      refine x_A k111_41 (fun _ => rfl) ?_
      refine x_callS k111_42 (y := 127) (n := 2) (w0 := 0) (w1 := 3) (as := [vj z15, vi d]) (rest := []) (by decide +kernel) rfl rfl rfl rfl (xe_mono (C_X10_pick s16 hG_s16 z15 b_z15 d (by first | exact x_rb b_d rfl rfl | exact ⟨by omega, by omega⟩)) ?_)
      rintro s22 v ⟨-, t_s22, z21, rfl, g_z21⟩
      rw [t_s22.nil]
      show xe none 111 45 [(0, .ref 0), (1, vi a), (2, vi b), (3, vi d)] [vi z21] s16 0 0 _
      exact x_iret k111_45 rfl ⟨hG_s16, f_s16, z21, rfl, (by first | exact x_rbe e_z21 g_z21 rfl rfl | exact x_rb g_z21 rfl rfl | exact ⟨by omega, by omega⟩), VCj_s16, VCl_s16⟩
    · rw [e_z6]
      show xe none 111 20 [(0, .ref 0), (1, vi a), (2, vi b), (3, vi d)] [vi 0] s0 0 0 _
      refine x_if_ne k111_20 (t := 27) rfl ⟨by decide, by decide⟩ (fun c23 => by exfalso; omega) (fun c23 => ?_)
      refine x_sipush k111_23 (by decide +kernel) ?_
      exact x_iret k111_26 rfl ⟨hG0, f0, (-1002), rfl, ⟨by decide, by decide⟩, i0_VCj, i0_VCl⟩
  · rw [e_z2]
    show xe none 111 8 [(0, .ref 0), (1, vi a), (2, vi b), (3, vi d)] [vi 0] s0 0 0 _
    refine x_if_ne k111_8 (t := 15) rfl ⟨by decide, by decide⟩ (fun c24 => by exfalso; omega) (fun c24 => ?_)
    refine x_sipush k111_11 (by decide +kernel) ?_
    exact x_iret k111_14 rfl ⟨hG0, f0, (-1001), rfl, ⟨by decide, by decide⟩, i0_VCj, i0_VCl⟩
