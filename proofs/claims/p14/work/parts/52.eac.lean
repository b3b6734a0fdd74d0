set_option maxHeartbeats 8000000 in
theorem E_X10_end_0 (s0 : xS) (hG0 : GI s0) (a : Int) (b_a : (-2147483648) ≤ a ∧ a ≤ 2147483647) (b : Int) (b_b : (-2147483648) ≤ b ∧ b ≤ 2147483647) (p_1_4 : 1 ≤ s0 1 4 ∧ s0 1 4 ≤ 40) (p_0_10 : 0 ≤ s0 0 10 ∧ s0 0 10 ≤ 9) : xe none 94 0 (lv_args 0 [.ref 0, vi a, vi b]) [] s0 0 0 (fun s' v => GI s' ∧ FL [192, 256, 3276, 3277] s0 s' ∧ ∃ z, v = some (vi z) ∧ ((-1004) ≤ z ∧ z ≤ 39) ∧ (EnC s0 s' a b)) := by
  have f0 : FL [192, 256, 3276, 3277] s0 s0 := FL.rf
  show xe none 94 0 [(0, .ref 0), (1, vi a), (2, vi b)] [] s0 0 0 _
  obtain ⟨z1, e_z1⟩ : ∃ z, z = s0 1 4 := ⟨_, rfl⟩
  have g_z1 : (1 : Int) ≤ s0 1 4 ∧ s0 1 4 ≤ 40 := hG0 1 4
  obtain ⟨z2, e_z2⟩ : ∃ z, z = s0 0 10 := ⟨_, rfl⟩
  have g_z2 : (0 : Int) ≤ s0 0 10 ∧ s0 0 10 ≤ 9 := hG0 0 10
  refine x_A k94_0 (fun _ => rfl) ?_
  refine x_getR k94_1 (f := 0) rfl (q := 0) (n := 12) (kd := 3) ⟨by decide, rfl⟩ (q2 := 1) (by decide) rfl ?_
  refine x_A k94_4 (fun _ => rfl) ?_
  refine x_callV k94_5 (y := 59) (n := 1) (w0 := 0) (w1 := 1) (as := [vi a]) (rest := []) (by decide +kernel) (q := 1) (nq := 5) (kq := 4) ⟨by decide, rfl⟩ rfl rfl rfl rfl (xe_mono (C_X7_has_1 s0 hG0 a (by first | exact x_rb b_a rfl rfl | exact ⟨by omega, by omega⟩)) ?_)
  rintro s4 v ⟨h_s4, z3, rfl, hz_z3⟩
  rw [h_s4]
  rcases hz_z3 with ⟨c_z3, e_z3⟩ | ⟨c_z3, e_z3⟩
  · rw [e_z3]
    show xe none 94 8 [(0, .ref 0), (1, vi a), (2, vi b)] [vi 1] s0 0 0 _
    refine x_if_eq k94_8 (t := 27) rfl ⟨by decide, by decide⟩ (fun c5 => by exfalso; omega) (fun c5 => ?_)
    refine x_A k94_11 (fun _ => rfl) ?_
    refine x_A k94_12 (fun _ => rfl) ?_
    refine x_ic_eq k94_13 (t := 31) rfl (by first | exact x_rb b_b rfl rfl | exact ⟨by omega, by omega⟩) ⟨by decide, by decide⟩ (fun c6 => ?_) (fun c6 => ?_)
    · skip
      refine x_A k94_31 (fun _ => rfl) ?_
      refine x_if_eq k94_32 (t := 55) rfl (by first | exact x_rb b_a rfl rfl | exact ⟨by omega, by omega⟩) (fun c7 => ?_) (fun c7 => ?_)
      · skip
        refine x_sipush k94_55 (by decide +kernel) ?_
        exact x_iret k94_58 rfl ⟨hG0, f0, (-1003), rfl, ⟨by decide, by decide⟩, (by unfold EnC; exact Or.inr (Or.inl ⟨by omega, by omega, rfl⟩))⟩
      · skip
        refine x_A k94_35 (fun _ => rfl) ?_
        refine x_A k94_36 (fun _ => rfl) ?_
        refine x_ic_eq k94_37 (t := 55) rfl (by first | exact x_rb b_a rfl rfl | exact ⟨by omega, by omega⟩) (by first | exact x_rb b_b rfl rfl | exact ⟨by omega, by omega⟩) (fun c8 => by exfalso; omega) (fun c8 => ?_)
        refine x_A k94_40 (fun _ => rfl) ?_
        refine x_getR k94_41 (f := 0) rfl (q := 0) (n := 12) (kd := 3) ⟨by decide, rfl⟩ (q2 := 1) (by decide) rfl ?_
        refine x_A k94_44 (fun _ => rfl) ?_
        refine x_A k94_45 (fun _ => rfl) ?_
        refine x_getI k94_46 (f := 10) rfl (q := 0) (n := 12) (kd := 3) ⟨by decide, rfl⟩ (by decide) rfl ?_
        refine x_rw (e_z2.symm) ?_
        refine x_callV k94_49 (y := 64) (n := 2) (w0 := 0) (w1 := 2) (as := [vi a, vi z2]) (rest := []) (by decide +kernel) (q := 1) (nq := 5) (kq := 4) ⟨by decide, rfl⟩ rfl rfl rfl rfl (xe_mono (E_X7_isThere_1 s0 hG0 a (by first | exact x_rb b_a rfl rfl | exact ⟨by omega, by omega⟩) z2 (by first | exact x_rbe e_z2 g_z2 rfl rfl | exact x_rb g_z2 rfl rfl | exact ⟨by omega, by omega⟩)) ?_)
        rintro s10 v ⟨h_s10, z9, rfl, hz_z9⟩
        rw [h_s10]
        rcases hz_z9 with ⟨c_z9, e_z9, m_z9⟩ | ⟨e_z9, m_z9⟩
        · rw [e_z9]
          show xe none 94 52 [(0, .ref 0), (1, vi a), (2, vi b)] [vi 1] s0 0 0 _
          refine x_if_ne k94_52 (t := 59) rfl ⟨by decide, by decide⟩ (fun c11 => ?_) (fun c11 => by exfalso; omega)
          refine x_A k94_59 (fun _ => rfl) ?_
          refine x_A k94_60 (fun _ => rfl) ?_
          refine x_ic_eq k94_61 (t := 83) rfl (by first | exact x_rb b_b rfl rfl | exact ⟨by omega, by omega⟩) ⟨by decide, by decide⟩ (fun c12 => ?_) (fun c12 => by exfalso; omega)
          refine x_A k94_83 (fun _ => rfl) ?_
          refine x_getR k94_84 (f := 9) rfl (q := 0) (n := 12) (kd := 3) ⟨by decide, rfl⟩ (q2 := 243) (by decide) rfl ?_
          refine x_callV k94_87 (y := 73) (n := 0) (w0 := 0) (w1 := 0) (as := []) (rest := []) (by decide +kernel) (q := 243) (nq := 13) (kq := 13) ⟨by decide, rfl⟩ rfl rfl rfl rfl (xe_mono (C_X8_forget_243 s0 hG0) ?_)
          rintro s14 v ⟨hG_s14, t_s14, rfl⟩
          have f_s14 : FL [192, 256, 3276, 3277] s0 s14 := f0.tr t_s14 (by decide +kernel)
          have q15 : s14 1 4 = z1 := (t_s14 1 4 (show 69 ∉ [3276, 3277] from by decide +kernel)).trans e_z1.symm
          have q16 : s14 0 10 = z2 := (t_s14 0 10 (show 11 ∉ [3276, 3277] from by decide +kernel)).trans e_z2.symm
          show xe none 94 90 [(0, .ref 0), (1, vi a), (2, vi b)] [] s14 0 0 _
          have F3 : s14 3 = s0 3 := funext fun i => t_s14 3 i (show 192 ∉ _ from by decide)
          refine x_A k94_90 (fun _ => rfl) ?_
          refine x_getR k94_91 (f := 0) rfl (q := 0) (n := 12) (kd := 3) ⟨by decide, rfl⟩ (q2 := 1) (by decide) rfl ?_
          refine x_getR k94_94 (f := 1) rfl (q := 1) (n := 5) (kd := 4) ⟨by decide, rfl⟩ (q2 := 3) (by decide) rfl ?_
          refine x_A k94_97 (fun _ => rfl) ?_
          refine x_A k94_98 (fun _ => rfl) ?_
          refine x_getI k94_99 (f := 10) rfl (q := 0) (n := 12) (kd := 3) ⟨by decide, rfl⟩ (by decide) rfl ?_
          refine x_rw (q16) ?_
          refine x_iast k94_102 (q := 3) (n := 40) ⟨by decide, rfl⟩ (by decide) (by first | exact x_rbl b_a rfl rfl | exact ⟨by omega, by omega⟩) ?_
          refine x_nh (fun s17 e_s17 => ?_)
          have hG_s17 : GI s17 := by rw [e_s17]; exact hG_s14.up (show (-1) ≤ z2 ∧ z2 ≤ 9 from (by first | exact x_rbe e_z2 g_z2 rfl rfl | exact x_rb g_z2 rfl rfl | exact ⟨by omega, by omega⟩))
          have f_s17 : FL [192, 256, 3276, 3277] s0 s17 := by rw [e_s17]; exact f_s14.up (show 192 ∈ [192, 256, 3276, 3277] from by decide +kernel)
          have q18 : s17 1 4 = z1 := by rw [e_s17, x_up_q (by decide)]; exact q15
          have q19 : s17 0 10 = z2 := by rw [e_s17, x_up_q (by decide)]; exact q16
          have q20 : s17 3 a.toNat = z2 := by rw [e_s17]; exact x_up_same
          refine x_A k94_103 (fun _ => rfl) ?_
          refine x_getR k94_104 (f := 0) rfl (q := 0) (n := 12) (kd := 3) ⟨by decide, rfl⟩ (q2 := 1) (by decide) rfl ?_
          refine x_getR k94_107 (f := 2) rfl (q := 1) (n := 5) (kd := 4) ⟨by decide, rfl⟩ (q2 := 4) (by decide) rfl ?_
          refine x_A k94_110 (fun _ => rfl) ?_
          refine x_A k94_111 (fun _ => rfl) ?_
          refine x_iast k94_112 (q := 4) (n := 40) ⟨by decide, rfl⟩ (by decide) (by first | exact x_rbl b_a rfl rfl | exact ⟨by omega, by omega⟩) ?_
          refine x_nh (fun s21 e_s21 => ?_)
          have hG_s21 : GI s21 := by rw [e_s21]; exact hG_s17.up (show (-1) ≤ b ∧ b ≤ 39 from (by first | exact x_rb b_b rfl rfl | exact ⟨by omega, by omega⟩))
          have f_s21 : FL [192, 256, 3276, 3277] s0 s21 := by rw [e_s21]; exact f_s17.up (show 256 ∈ [192, 256, 3276, 3277] from by decide +kernel)
          have q22 : s21 1 4 = z1 := by rw [e_s21, x_up_q (by decide)]; exact q18
          have q23 : s21 0 10 = z2 := by rw [e_s21, x_up_q (by decide)]; exact q19
          have q24 : s21 3 a.toNat = z2 := by rw [e_s21, x_up_q (by first | decide | omega)]; exact q20
          have q25 : s21 4 a.toNat = b := by rw [e_s21]; exact x_up_same
          refine x_A k94_113 (fun _ => rfl) ?_
          refine x_getR k94_114 (f := 0) rfl (q := 0) (n := 12) (kd := 3) ⟨by decide, rfl⟩ (q2 := 1) (by decide) rfl ?_
          refine x_A k94_117 (fun _ => rfl) ?_
          refine x_A k94_118 (fun _ => rfl) ?_
          refine x_getI k94_119 (f := 10) rfl (q := 0) (n := 12) (kd := 3) ⟨by decide, rfl⟩ (by decide) rfl ?_
          refine x_rw (q23) ?_
          refine x_callV k94_122 (y := 67) (n := 2) (w0 := 0) (w1 := 2) (as := [vi a, vi z2]) (rest := []) (by decide +kernel) (q := 1) (nq := 5) (kq := 4) ⟨by decide, rfl⟩ rfl rfl rfl rfl (xe_mono (C_X7_countBelow_1 s21 hG_s21 a (by first | exact x_rb b_a rfl rfl | exact ⟨by omega, by omega⟩) z2 (by first | exact x_rbe e_z2 g_z2 rfl rfl | exact x_rb g_z2 rfl rfl | exact ⟨by omega, by omega⟩)) ?_)
          rintro s27 v ⟨-, t_s27, z26, rfl, g_z26⟩
          rw [t_s27.nil]
          show xe none 94 125 [(0, .ref 0), (1, vi a), (2, vi b)] [vi z26] s21 0 0 _
          refine x_A k94_125 (fun _ => rfl) ?_
          refine x_isub k94_126 ?_
          refine x_top (fun z28 e_z28 => ?_)
          exact x_iret k94_127 rfl ⟨hG_s21, f_s21, z28, rfl, (by first | exact x_rbe e_z28 g_z28 rfl rfl | exact x_rb g_z28 rfl rfl | exact ⟨by omega, by omega⟩), (by unfold EnC; exact Or.inr (Or.inr ⟨by omega, by omega, fun j => by rw [e_s21, x_up_q (by decide), e_s17, x_up_at, show z2 = s0 0 10 by omega, F3]⟩))⟩
        · rw [e_z9]
          show xe none 94 52 [(0, .ref 0), (1, vi a), (2, vi b)] [vi 0] s0 0 0 _
          refine x_if_ne k94_52 (t := 59) rfl ⟨by decide, by decide⟩ (fun c29 => by exfalso; omega) (fun c29 => ?_)
          refine x_sipush k94_55 (by decide +kernel) ?_
          exact x_iret k94_58 rfl ⟨hG0, f0, (-1003), rfl, ⟨by decide, by decide⟩, (by unfold EnC; exact Or.inr (Or.inl ⟨by omega, by omega, rfl⟩))⟩
    · skip
      refine x_A k94_16 (fun _ => rfl) ?_
      refine x_getR k94_17 (f := 0) rfl (q := 0) (n := 12) (kd := 3) ⟨by decide, rfl⟩ (q2 := 1) (by decide) rfl ?_
      refine x_A k94_20 (fun _ => rfl) ?_
      refine x_callV k94_21 (y := 59) (n := 1) (w0 := 0) (w1 := 1) (as := [vi b]) (rest := []) (by decide +kernel) (q := 1) (nq := 5) (kq := 4) ⟨by decide, rfl⟩ rfl rfl rfl rfl (xe_mono (C_X7_has_1 s0 hG0 b (by first | exact x_rb b_b rfl rfl | exact ⟨by omega, by omega⟩)) ?_)
      rintro s31 v ⟨h_s31, z30, rfl, hz_z30⟩
      rw [h_s31]
      rcases hz_z30 with ⟨c_z30, e_z30⟩ | ⟨c_z30, e_z30⟩
      · rw [e_z30]
        show xe none 94 24 [(0, .ref 0), (1, vi a), (2, vi b)] [vi 1] s0 0 0 _
        refine x_if_ne k94_24 (t := 31) rfl ⟨by decide, by decide⟩ (fun c32 => ?_) (fun c32 => by exfalso; omega)
        refine x_A k94_31 (fun _ => rfl) ?_
        refine x_if_eq k94_32 (t := 55) rfl (by first | exact x_rb b_a rfl rfl | exact ⟨by omega, by omega⟩) (fun c33 => ?_) (fun c33 => ?_)
        · skip
          refine x_sipush k94_55 (by decide +kernel) ?_
          exact x_iret k94_58 rfl ⟨hG0, f0, (-1003), rfl, ⟨by decide, by decide⟩, (by unfold EnC; exact Or.inr (Or.inl ⟨by omega, by omega, rfl⟩))⟩
        · skip
          refine x_A k94_35 (fun _ => rfl) ?_
          refine x_A k94_36 (fun _ => rfl) ?_
          refine x_ic_eq k94_37 (t := 55) rfl (by first | exact x_rb b_a rfl rfl | exact ⟨by omega, by omega⟩) (by first | exact x_rb b_b rfl rfl | exact ⟨by omega, by omega⟩) (fun c34 => ?_) (fun c34 => ?_)
          · skip
            refine x_sipush k94_55 (by decide +kernel) ?_
            exact x_iret k94_58 rfl ⟨hG0, f0, (-1003), rfl, ⟨by decide, by decide⟩, (by unfold EnC; exact Or.inr (Or.inl ⟨by omega, by omega, rfl⟩))⟩
          · skip
            refine x_A k94_40 (fun _ => rfl) ?_
            refine x_getR k94_41 (f := 0) rfl (q := 0) (n := 12) (kd := 3) ⟨by decide, rfl⟩ (q2 := 1) (by decide) rfl ?_
            refine x_A k94_44 (fun _ => rfl) ?_
            refine x_A k94_45 (fun _ => rfl) ?_
            refine x_getI k94_46 (f := 10) rfl (q := 0) (n := 12) (kd := 3) ⟨by decide, rfl⟩ (by decide) rfl ?_
            refine x_rw (e_z2.symm) ?_
            refine x_callV k94_49 (y := 64) (n := 2) (w0 := 0) (w1 := 2) (as := [vi a, vi z2]) (rest := []) (by decide +kernel) (q := 1) (nq := 5) (kq := 4) ⟨by decide, rfl⟩ rfl rfl rfl rfl (xe_mono (E_X7_isThere_1 s0 hG0 a (by first | exact x_rb b_a rfl rfl | exact ⟨by omega, by omega⟩) z2 (by first | exact x_rbe e_z2 g_z2 rfl rfl | exact x_rb g_z2 rfl rfl | exact ⟨by omega, by omega⟩)) ?_)
            rintro s36 v ⟨h_s36, z35, rfl, hz_z35⟩
            rw [h_s36]
            rcases hz_z35 with ⟨c_z35, e_z35, m_z35⟩ | ⟨e_z35, m_z35⟩
            · rw [e_z35]
              show xe none 94 52 [(0, .ref 0), (1, vi a), (2, vi b)] [vi 1] s0 0 0 _
              refine x_if_ne k94_52 (t := 59) rfl ⟨by decide, by decide⟩ (fun c37 => ?_) (fun c37 => by exfalso; omega)
              refine x_A k94_59 (fun _ => rfl) ?_
              refine x_A k94_60 (fun _ => rfl) ?_
              refine x_ic_eq k94_61 (t := 83) rfl (by first | exact x_rb b_b rfl rfl | exact ⟨by omega, by omega⟩) ⟨by decide, by decide⟩ (fun c38 => by exfalso; omega) (fun c38 => ?_)
              refine x_A k94_64 (fun _ => rfl) ?_
              refine x_getR k94_65 (f := 0) rfl (q := 0) (n := 12) (kd := 3) ⟨by decide, rfl⟩ (q2 := 1) (by decide) rfl ?_
              refine x_A k94_68 (fun _ => rfl) ?_
              refine x_A k94_69 (fun _ => rfl) ?_
              refine x_getI k94_70 (f := 10) rfl (q := 0) (n := 12) (kd := 3) ⟨by decide, rfl⟩ (by decide) rfl ?_
              refine x_rw (e_z2.symm) ?_
              refine x_callV k94_73 (y := 64) (n := 2) (w0 := 0) (w1 := 2) (as := [vi b, vi z2]) (rest := []) (by decide +kernel) (q := 1) (nq := 5) (kq := 4) ⟨by decide, rfl⟩ rfl rfl rfl rfl (xe_mono (E_X7_isThere_1 s0 hG0 b (by first | exact x_rb b_b rfl rfl | exact ⟨by omega, by omega⟩) z2 (by first | exact x_rbe e_z2 g_z2 rfl rfl | exact x_rb g_z2 rfl rfl | exact ⟨by omega, by omega⟩)) ?_)
              rintro s40 v ⟨h_s40, z39, rfl, hz_z39⟩
              rw [h_s40]
              rcases hz_z39 with ⟨c_z39, e_z39, m_z39⟩ | ⟨e_z39, m_z39⟩
              · rw [e_z39]
                show xe none 94 76 [(0, .ref 0), (1, vi a), (2, vi b)] [vi 1] s0 0 0 _
                refine x_if_ne k94_76 (t := 83) rfl ⟨by decide, by decide⟩ (fun c41 => ?_) (fun c41 => by exfalso; omega)
                refine x_A k94_83 (fun _ => rfl) ?_
                refine x_getR k94_84 (f := 9) rfl (q := 0) (n := 12) (kd := 3) ⟨by decide, rfl⟩ (q2 := 243) (by decide) rfl ?_
                refine x_callV k94_87 (y := 73) (n := 0) (w0 := 0) (w1 := 0) (as := []) (rest := []) (by decide +kernel) (q := 243) (nq := 13) (kq := 13) ⟨by decide, rfl⟩ rfl rfl rfl rfl (xe_mono (C_X8_forget_243 s0 hG0) ?_)
                rintro s43 v ⟨hG_s43, t_s43, rfl⟩
                have f_s43 : FL [192, 256, 3276, 3277] s0 s43 := f0.tr t_s43 (by decide +kernel)
                have q44 : s43 1 4 = z1 := (t_s43 1 4 (show 69 ∉ [3276, 3277] from by decide +kernel)).trans e_z1.symm
                have q45 : s43 0 10 = z2 := (t_s43 0 10 (show 11 ∉ [3276, 3277] from by decide +kernel)).trans e_z2.symm
                show xe none 94 90 [(0, .ref 0), (1, vi a), (2, vi b)] [] s43 0 0 _
                have F3 : s43 3 = s0 3 := funext fun i => t_s43 3 i (show 192 ∉ _ from by decide)
                refine x_A k94_90 (fun _ => rfl) ?_
                refine x_getR k94_91 (f := 0) rfl (q := 0) (n := 12) (kd := 3) ⟨by decide, rfl⟩ (q2 := 1) (by decide) rfl ?_
                refine x_getR k94_94 (f := 1) rfl (q := 1) (n := 5) (kd := 4) ⟨by decide, rfl⟩ (q2 := 3) (by decide) rfl ?_
                refine x_A k94_97 (fun _ => rfl) ?_
                refine x_A k94_98 (fun _ => rfl) ?_
                refine x_getI k94_99 (f := 10) rfl (q := 0) (n := 12) (kd := 3) ⟨by decide, rfl⟩ (by decide) rfl ?_
                refine x_rw (q45) ?_
                refine x_iast k94_102 (q := 3) (n := 40) ⟨by decide, rfl⟩ (by decide) (by first | exact x_rbl b_a rfl rfl | exact ⟨by omega, by omega⟩) ?_
                refine x_nh (fun s46 e_s46 => ?_)
                have hG_s46 : GI s46 := by rw [e_s46]; exact hG_s43.up (show (-1) ≤ z2 ∧ z2 ≤ 9 from (by first | exact x_rbe e_z2 g_z2 rfl rfl | exact x_rb g_z2 rfl rfl | exact ⟨by omega, by omega⟩))
                have f_s46 : FL [192, 256, 3276, 3277] s0 s46 := by rw [e_s46]; exact f_s43.up (show 192 ∈ [192, 256, 3276, 3277] from by decide +kernel)
                have q47 : s46 1 4 = z1 := by rw [e_s46, x_up_q (by decide)]; exact q44
                have q48 : s46 0 10 = z2 := by rw [e_s46, x_up_q (by decide)]; exact q45
                have q49 : s46 3 a.toNat = z2 := by rw [e_s46]; exact x_up_same
                refine x_A k94_103 (fun _ => rfl) ?_
                refine x_getR k94_104 (f := 0) rfl (q := 0) (n := 12) (kd := 3) ⟨by decide, rfl⟩ (q2 := 1) (by decide) rfl ?_
                refine x_getR k94_107 (f := 2) rfl (q := 1) (n := 5) (kd := 4) ⟨by decide, rfl⟩ (q2 := 4) (by decide) rfl ?_
                refine x_A k94_110 (fun _ => rfl) ?_
                refine x_A k94_111 (fun _ => rfl) ?_
                refine x_iast k94_112 (q := 4) (n := 40) ⟨by decide, rfl⟩ (by decide) (by first | exact x_rbl b_a rfl rfl | exact ⟨by omega, by omega⟩) ?_
                refine x_nh (fun s50 e_s50 => ?_)
                have hG_s50 : GI s50 := by rw [e_s50]; exact hG_s46.up (show (-1) ≤ b ∧ b ≤ 39 from (by first | exact x_rb b_b rfl rfl | exact ⟨by omega, by omega⟩))
                have f_s50 : FL [192, 256, 3276, 3277] s0 s50 := by rw [e_s50]; exact f_s46.up (show 256 ∈ [192, 256, 3276, 3277] from by decide +kernel)
                have q51 : s50 1 4 = z1 := by rw [e_s50, x_up_q (by decide)]; exact q47
                have q52 : s50 0 10 = z2 := by rw [e_s50, x_up_q (by decide)]; exact q48
                have q53 : s50 3 a.toNat = z2 := by rw [e_s50, x_up_q (by first | decide | omega)]; exact q49
                have q54 : s50 4 a.toNat = b := by rw [e_s50]; exact x_up_same
                refine x_A k94_113 (fun _ => rfl) ?_
                refine x_getR k94_114 (f := 0) rfl (q := 0) (n := 12) (kd := 3) ⟨by decide, rfl⟩ (q2 := 1) (by decide) rfl ?_
                refine x_A k94_117 (fun _ => rfl) ?_
                refine x_A k94_118 (fun _ => rfl) ?_
                refine x_getI k94_119 (f := 10) rfl (q := 0) (n := 12) (kd := 3) ⟨by decide, rfl⟩ (by decide) rfl ?_
                refine x_rw (q52) ?_
                refine x_callV k94_122 (y := 67) (n := 2) (w0 := 0) (w1 := 2) (as := [vi a, vi z2]) (rest := []) (by decide +kernel) (q := 1) (nq := 5) (kq := 4) ⟨by decide, rfl⟩ rfl rfl rfl rfl (xe_mono (C_X7_countBelow_1 s50 hG_s50 a (by first | exact x_rb b_a rfl rfl | exact ⟨by omega, by omega⟩) z2 (by first | exact x_rbe e_z2 g_z2 rfl rfl | exact x_rb g_z2 rfl rfl | exact ⟨by omega, by omega⟩)) ?_)
                rintro s56 v ⟨-, t_s56, z55, rfl, g_z55⟩
                rw [t_s56.nil]
                show xe none 94 125 [(0, .ref 0), (1, vi a), (2, vi b)] [vi z55] s50 0 0 _
                refine x_A k94_125 (fun _ => rfl) ?_
                refine x_isub k94_126 ?_
                refine x_top (fun z57 e_z57 => ?_)
                exact x_iret k94_127 rfl ⟨hG_s50, f_s50, z57, rfl, (by first | exact x_rbe e_z57 g_z57 rfl rfl | exact x_rb g_z57 rfl rfl | exact ⟨by omega, by omega⟩), (by unfold EnC; exact Or.inr (Or.inr ⟨by omega, by omega, fun j => by rw [e_s50, x_up_q (by decide), e_s46, x_up_at, show z2 = s0 0 10 by omega, F3]⟩))⟩
              · rw [e_z39]
                show xe none 94 76 [(0, .ref 0), (1, vi a), (2, vi b)] [vi 0] s0 0 0 _
                refine x_if_ne k94_76 (t := 83) rfl ⟨by decide, by decide⟩ (fun c58 => by exfalso; omega) (fun c58 => ?_)
                refine x_sipush k94_79 (by decide +kernel) ?_
                exact x_iret k94_82 rfl ⟨hG0, f0, (-1003), rfl, ⟨by decide, by decide⟩, (by unfold EnC; exact Or.inr (Or.inl ⟨by omega, by omega, rfl⟩))⟩
            · rw [e_z35]
              show xe none 94 52 [(0, .ref 0), (1, vi a), (2, vi b)] [vi 0] s0 0 0 _
              refine x_if_ne k94_52 (t := 59) rfl ⟨by decide, by decide⟩ (fun c59 => by exfalso; omega) (fun c59 => ?_)
              refine x_sipush k94_55 (by decide +kernel) ?_
              exact x_iret k94_58 rfl ⟨hG0, f0, (-1003), rfl, ⟨by decide, by decide⟩, (by unfold EnC; exact Or.inr (Or.inl ⟨by omega, by omega, rfl⟩))⟩
      · rw [e_z30]
        show xe none 94 24 [(0, .ref 0), (1, vi a), (2, vi b)] [vi 0] s0 0 0 _
        refine x_if_ne k94_24 (t := 31) rfl ⟨by decide, by decide⟩ (fun c60 => by exfalso; omega) (fun c60 => ?_)
        refine x_sipush k94_27 (by decide +kernel) ?_
        exact x_iret k94_30 rfl ⟨hG0, f0, (-1001), rfl, ⟨by decide, by decide⟩, (by unfold EnC; exact Or.inl ⟨by omega, rfl⟩)⟩
  · rw [e_z3]
    show xe none 94 8 [(0, .ref 0), (1, vi a), (2, vi b)] [vi 0] s0 0 0 _
    refine x_if_eq k94_8 (t := 27) rfl ⟨by decide, by decide⟩ (fun c61 => ?_) (fun c61 => by exfalso; omega)
    refine x_sipush k94_27 (by decide +kernel) ?_
    exact x_iret k94_30 rfl ⟨hG0, f0, (-1001), rfl, ⟨by decide, by decide⟩, (by unfold EnC; exact Or.inl ⟨by omega, rfl⟩)⟩
set_option maxHeartbeats 8000000 in
theorem E_X11_end_256 (s0 : xS) (hG0 : GI s0) (a : Int) (b_a : (-2147483648) ≤ a ∧ a ≤ 2147483647) (b : Int) (b_b : (-2147483648) ≤ b ∧ b ≤ 2147483647) (p_256_1 : 1 ≤ s0 256 1 ∧ s0 256 1 ≤ 40) (p_256_0 : 0 ≤ s0 256 0 ∧ s0 256 0 ≤ 9) (i0_J : J s0) : xe none 148 0 (lv_args 0 [.ref 256, vi a, vi b]) [] s0 0 0 (fun s' v => GI s' ∧ FL [4224, 4288] s0 s' ∧ ∃ z, v = some (vi z) ∧ ((-1004) ≤ z ∧ z ≤ 39) ∧ (EnR s0 s' a b) ∧ J s') := by
  have f0 : FL [4224, 4288] s0 s0 := FL.rf
  show xe none 148 0 [(0, .ref 256), (1, vi a), (2, vi b)] [] s0 0 0 _
  obtain ⟨z1, e_z1⟩ : ∃ z, z = s0 256 1 := ⟨_, rfl⟩
  have g_z1 : (1 : Int) ≤ s0 256 1 ∧ s0 256 1 ≤ 40 := hG0 256 1
  obtain ⟨z2, e_z2⟩ : ∃ z, z = s0 256 0 := ⟨_, rfl⟩
  have g_z2 : (0 : Int) ≤ s0 256 0 ∧ s0 256 0 ≤ 9 := hG0 256 0
  refine x_A k148_0 (fun _ => rfl) ?_
  refine x_A k148_1 (fun _ => rfl) ?_
  refine x_callV k148_2 (y := 137) (n := 1) (w0 := 0) (w1 := 1) (as := [vi a]) (rest := []) (by decide +kernel) (q := 256) (nq := 62) (kq := 15) ⟨by decide, rfl⟩ rfl rfl rfl rfl (xe_mono (C_X11_isMark_256 s0 hG0 a (by first | exact x_rb b_a rfl rfl | exact ⟨by omega, by omega⟩)) ?_)
  rintro s4 v ⟨h_s4, z3, rfl, hz_z3⟩
  rw [h_s4]
  rcases hz_z3 with ⟨c_z3, e_z3⟩ | ⟨c_z3, e_z3⟩
  · rw [e_z3]
    show xe none 148 5 [(0, .ref 256), (1, vi a), (2, vi b)] [vi 1] s0 0 0 _
    refine x_if_eq k148_5 (t := 21) rfl ⟨by decide, by decide⟩ (fun c5 => by exfalso; omega) (fun c5 => ?_)
    refine x_A k148_8 (fun _ => rfl) ?_
    refine x_A k148_9 (fun _ => rfl) ?_
    refine x_ic_eq k148_10 (t := 25) rfl (by first | exact x_rb b_b rfl rfl | exact ⟨by omega, by omega⟩) ⟨by decide, by decide⟩ (fun c6 => ?_) (fun c6 => ?_)
    · skip
      refine x_A k148_25 (fun _ => rfl) ?_
      refine x_if_eq k148_26 (t := 63) rfl (by first | exact x_rb b_a rfl rfl | exact ⟨by omega, by omega⟩) (fun c7 => ?_) (fun c7 => ?_)
      · skip
        refine x_sipush k148_63 (by decide +kernel) ?_
        exact x_iret k148_66 rfl ⟨hG0, f0, (-1003), rfl, ⟨by decide, by decide⟩, (by unfold EnR; exact Or.inr (Or.inl ⟨by omega, by omega, rfl⟩)), i0_J⟩
      · skip
        refine x_A k148_29 (fun _ => rfl) ?_
        refine x_A k148_30 (fun _ => rfl) ?_
        refine x_ic_eq k148_31 (t := 63) rfl (by first | exact x_rb b_a rfl rfl | exact ⟨by omega, by omega⟩) (by first | exact x_rb b_b rfl rfl | exact ⟨by omega, by omega⟩) (fun c8 => by exfalso; omega) (fun c8 => ?_)
        refine x_A k148_34 (fun _ => rfl) ?_
        refine x_A k148_35 (fun _ => rfl) ?_
        refine x_A k148_36 (fun _ => rfl) ?_
        refine x_getI k148_37 (f := 0) rfl (q := 256) (n := 62) (kd := 15) ⟨by decide, rfl⟩ (by decide) rfl ?_
        refine x_rw (e_z2.symm) ?_
        refine x_callV k148_40 (y := 142) (n := 2) (w0 := 0) (w1 := 2) (as := [vi a, vi z2]) (rest := []) (by decide +kernel) (q := 256) (nq := 62) (kq := 15) ⟨by decide, rfl⟩ rfl rfl rfl rfl (xe_mono (C_X11_isThere_256 s0 hG0 a (by first | exact x_rb b_a rfl rfl | exact ⟨by omega, by omega⟩) z2 (by first | exact x_rbe e_z2 g_z2 rfl rfl | exact x_rb g_z2 rfl rfl | exact ⟨by omega, by omega⟩)) ?_)
        rintro s10 v ⟨h_s10, z9, rfl, hz_z9⟩
        rw [h_s10]
        rcases hz_z9 with ⟨c_z9, e_z9, m_z9⟩ | ⟨e_z9, m_z9⟩
        · rw [e_z9]
          show xe none 148 43 [(0, .ref 256), (1, vi a), (2, vi b)] [vi 1] s0 0 0 _
          refine x_if_eq k148_43 (t := 63) rfl ⟨by decide, by decide⟩ (fun c11 => by exfalso; omega) (fun c11 => ?_)
          refine x_A k148_46 (fun _ => rfl) ?_
          refine x_A k148_47 (fun _ => rfl) ?_
          refine x_ic_eq k148_48 (t := 67) rfl (by first | exact x_rb b_b rfl rfl | exact ⟨by omega, by omega⟩) ⟨by decide, by decide⟩ (fun c12 => ?_) (fun c12 => by exfalso; omega)
          refine x_A k148_67 (fun _ => rfl) ?_
          refine x_getR k148_68 (f := 3) rfl (q := 256) (n := 62) (kd := 15) ⟨by decide, rfl⟩ (q2 := 258) (by decide) rfl ?_
          refine x_A k148_71 (fun _ => rfl) ?_
          refine x_A k148_72 (fun _ => rfl) ?_
          refine x_getI k148_73 (f := 0) rfl (q := 256) (n := 62) (kd := 15) ⟨by decide, rfl⟩ (by decide) rfl ?_
          refine x_rw (e_z2.symm) ?_
          refine x_iast k148_76 (q := 258) (n := 40) ⟨by decide, rfl⟩ (by decide) (by first | exact x_rbl b_a rfl rfl | exact ⟨by omega, by omega⟩) ?_
          refine x_nh (fun s13 e_s13 => ?_)
          have hG_s13 : GI s13 := by rw [e_s13]; exact hG0.up (show (-1) ≤ z2 ∧ z2 ≤ 9 from (by first | exact x_rbe e_z2 g_z2 rfl rfl | exact x_rb g_z2 rfl rfl | exact ⟨by omega, by omega⟩))
          have f_s13 : FL [4224, 4288] s0 s13 := by rw [e_s13]; exact f0.up (show 4224 ∈ [4224, 4288] from by decide +kernel)
          have q14 : s13 256 1 = z1 := by rw [e_s13, x_up_q (by decide)]; exact e_z1.symm
          have q15 : s13 256 0 = z2 := by rw [e_s13, x_up_q (by decide)]; exact e_z2.symm
          have q16 : s13 258 a.toNat = z2 := by rw [e_s13]; exact x_up_same
          refine x_A k148_77 (fun _ => rfl) ?_
          refine x_getR k148_78 (f := 4) rfl (q := 256) (n := 62) (kd := 15) ⟨by decide, rfl⟩ (q2 := 259) (by decide) rfl ?_
          refine x_A k148_81 (fun _ => rfl) ?_
          refine x_A k148_82 (fun _ => rfl) ?_
          refine x_iast k148_83 (q := 259) (n := 40) ⟨by decide, rfl⟩ (by decide) (by first | exact x_rbl b_a rfl rfl | exact ⟨by omega, by omega⟩) ?_
          refine x_nh (fun s17 e_s17 => ?_)
          have hG_s17 : GI s17 := by rw [e_s17]; exact hG_s13.up (show (-1) ≤ b ∧ b ≤ 39 from (by first | exact x_rb b_b rfl rfl | exact ⟨by omega, by omega⟩))
          have f_s17 : FL [4224, 4288] s0 s17 := by rw [e_s17]; exact f_s13.up (show 4288 ∈ [4224, 4288] from by decide +kernel)
          have q18 : s17 256 1 = z1 := by rw [e_s17, x_up_q (by decide)]; exact q14
          have q19 : s17 256 0 = z2 := by rw [e_s17, x_up_q (by decide)]; exact q15
          have q20 : s17 258 a.toNat = z2 := by rw [e_s17, x_up_q (by first | decide | omega)]; exact q16
          have q21 : s17 259 a.toNat = b := by rw [e_s17]; exact x_up_same
          have J_e : J s17 := by rw [e_s17, e_s13]; exact J.end i0_J hG0 e_z2 ⟨by omega, by omega⟩ (by omega) (by omega)
          refine x_A k148_84 (fun _ => rfl) ?_
          refine x_A k148_85 (fun _ => rfl) ?_
          refine x_A k148_86 (fun _ => rfl) ?_
          refine x_getI k148_87 (f := 0) rfl (q := 256) (n := 62) (kd := 15) ⟨by decide, rfl⟩ (by decide) rfl ?_
          refine x_rw (q19) ?_
          refine x_callV k148_90 (y := 144) (n := 2) (w0 := 0) (w1 := 2) (as := [vi a, vi z2]) (rest := []) (by decide +kernel) (q := 256) (nq := 62) (kq := 15) ⟨by decide, rfl⟩ rfl rfl rfl rfl (xe_mono (C_X11_belowMany_256 s17 hG_s17 J_e a (by first | exact x_rb b_a rfl rfl | exact ⟨by omega, by omega⟩) z2 (by first | exact x_rbe e_z2 g_z2 rfl rfl | exact x_rb g_z2 rfl rfl | exact ⟨by omega, by omega⟩)) ?_)
          rintro s23 v ⟨-, t_s23, z22, rfl, g_z22⟩
          rw [t_s23.nil]
          show xe none 148 93 [(0, .ref 256), (1, vi a), (2, vi b)] [vi z22] s17 0 0 _
          refine x_A k148_93 (fun _ => rfl) ?_
          refine x_isub k148_94 ?_
          refine x_top (fun z24 e_z24 => ?_)
          exact x_iret k148_95 rfl ⟨hG_s17, f_s17, z24, rfl, (by first | exact x_rbe e_z24 g_z24 rfl rfl | exact x_rb g_z24 rfl rfl | exact ⟨by omega, by omega⟩), (by unfold EnR; exact Or.inr (Or.inr ⟨by omega, by omega, fun j => by rw [e_s17, x_up_q (by decide), e_s13, x_up_at, show z2 = s0 256 0 by omega]⟩)), J_e⟩
        · rw [e_z9]
          show xe none 148 43 [(0, .ref 256), (1, vi a), (2, vi b)] [vi 0] s0 0 0 _
          refine x_if_eq k148_43 (t := 63) rfl ⟨by decide, by decide⟩ (fun c25 => ?_) (fun c25 => by exfalso; omega)
          refine x_sipush k148_63 (by decide +kernel) ?_
          exact x_iret k148_66 rfl ⟨hG0, f0, (-1003), rfl, ⟨by decide, by decide⟩, (by unfold EnR; exact Or.inr (Or.inl ⟨by omega, by omega, rfl⟩)), i0_J⟩
    · skip
      refine x_A k148_13 (fun _ => rfl) ?_
      refine x_A k148_14 (fun _ => rfl) ?_
      refine x_callV k148_15 (y := 137) (n := 1) (w0 := 0) (w1 := 1) (as := [vi b]) (rest := []) (by decide +kernel) (q := 256) (nq := 62) (kq := 15) ⟨by decide, rfl⟩ rfl rfl rfl rfl (xe_mono (C_X11_isMark_256 s0 hG0 b (by first | exact x_rb b_b rfl rfl | exact ⟨by omega, by omega⟩)) ?_)
      rintro s27 v ⟨h_s27, z26, rfl, hz_z26⟩
      rw [h_s27]
      rcases hz_z26 with ⟨c_z26, e_z26⟩ | ⟨c_z26, e_z26⟩
      · rw [e_z26]
        show xe none 148 18 [(0, .ref 256), (1, vi a), (2, vi b)] [vi 1] s0 0 0 _
        refine x_if_ne k148_18 (t := 25) rfl ⟨by decide, by decide⟩ (fun c28 => ?_) (fun c28 => by exfalso; omega)
        refine x_A k148_25 (fun _ => rfl) ?_
        refine x_if_eq k148_26 (t := 63) rfl (by first | exact x_rb b_a rfl rfl | exact ⟨by omega, by omega⟩) (fun c29 => ?_) (fun c29 => ?_)
        · skip
          refine x_sipush k148_63 (by decide +kernel) ?_
          exact x_iret k148_66 rfl ⟨hG0, f0, (-1003), rfl, ⟨by decide, by decide⟩, (by unfold EnR; exact Or.inr (Or.inl ⟨by omega, by omega, rfl⟩)), i0_J⟩
        · skip
          refine x_A k148_29 (fun _ => rfl) ?_
          refine x_A k148_30 (fun _ => rfl) ?_
          refine x_ic_eq k148_31 (t := 63) rfl (by first | exact x_rb b_a rfl rfl | exact ⟨by omega, by omega⟩) (by first | exact x_rb b_b rfl rfl | exact ⟨by omega, by omega⟩) (fun c30 => ?_) (fun c30 => ?_)
          · skip
            refine x_sipush k148_63 (by decide +kernel) ?_
            exact x_iret k148_66 rfl ⟨hG0, f0, (-1003), rfl, ⟨by decide, by decide⟩, (by unfold EnR; exact Or.inr (Or.inl ⟨by omega, by omega, rfl⟩)), i0_J⟩
          · skip
            refine x_A k148_34 (fun _ => rfl) ?_
            refine x_A k148_35 (fun _ => rfl) ?_
            refine x_A k148_36 (fun _ => rfl) ?_
            refine x_getI k148_37 (f := 0) rfl (q := 256) (n := 62) (kd := 15) ⟨by decide, rfl⟩ (by decide) rfl ?_
            refine x_rw (e_z2.symm) ?_
            refine x_callV k148_40 (y := 142) (n := 2) (w0 := 0) (w1 := 2) (as := [vi a, vi z2]) (rest := []) (by decide +kernel) (q := 256) (nq := 62) (kq := 15) ⟨by decide, rfl⟩ rfl rfl rfl rfl (xe_mono (C_X11_isThere_256 s0 hG0 a (by first | exact x_rb b_a rfl rfl | exact ⟨by omega, by omega⟩) z2 (by first | exact x_rbe e_z2 g_z2 rfl rfl | exact x_rb g_z2 rfl rfl | exact ⟨by omega, by omega⟩)) ?_)
            rintro s32 v ⟨h_s32, z31, rfl, hz_z31⟩
            rw [h_s32]
            rcases hz_z31 with ⟨c_z31, e_z31, m_z31⟩ | ⟨e_z31, m_z31⟩
            · rw [e_z31]
              show xe none 148 43 [(0, .ref 256), (1, vi a), (2, vi b)] [vi 1] s0 0 0 _
              refine x_if_eq k148_43 (t := 63) rfl ⟨by decide, by decide⟩ (fun c33 => by exfalso; omega) (fun c33 => ?_)
              refine x_A k148_46 (fun _ => rfl) ?_
              refine x_A k148_47 (fun _ => rfl) ?_
              refine x_ic_eq k148_48 (t := 67) rfl (by first | exact x_rb b_b rfl rfl | exact ⟨by omega, by omega⟩) ⟨by decide, by decide⟩ (fun c34 => by exfalso; omega) (fun c34 => ?_)
              refine x_A k148_51 (fun _ => rfl) ?_
              refine x_A k148_52 (fun _ => rfl) ?_
              refine x_A k148_53 (fun _ => rfl) ?_
              refine x_getI k148_54 (f := 0) rfl (q := 256) (n := 62) (kd := 15) ⟨by decide, rfl⟩ (by decide) rfl ?_
              refine x_rw (e_z2.symm) ?_
              refine x_callV k148_57 (y := 142) (n := 2) (w0 := 0) (w1 := 2) (as := [vi b, vi z2]) (rest := []) (by decide +kernel) (q := 256) (nq := 62) (kq := 15) ⟨by decide, rfl⟩ rfl rfl rfl rfl (xe_mono (C_X11_isThere_256 s0 hG0 b (by first | exact x_rb b_b rfl rfl | exact ⟨by omega, by omega⟩) z2 (by first | exact x_rbe e_z2 g_z2 rfl rfl | exact x_rb g_z2 rfl rfl | exact ⟨by omega, by omega⟩)) ?_)
              rintro s36 v ⟨h_s36, z35, rfl, hz_z35⟩
              rw [h_s36]
              rcases hz_z35 with ⟨c_z35, e_z35, m_z35⟩ | ⟨e_z35, m_z35⟩
              · rw [e_z35]
                show xe none 148 60 [(0, .ref 256), (1, vi a), (2, vi b)] [vi 1] s0 0 0 _
                refine x_if_ne k148_60 (t := 67) rfl ⟨by decide, by decide⟩ (fun c37 => ?_) (fun c37 => by exfalso; omega)
                refine x_A k148_67 (fun _ => rfl) ?_
                refine x_getR k148_68 (f := 3) rfl (q := 256) (n := 62) (kd := 15) ⟨by decide, rfl⟩ (q2 := 258) (by decide) rfl ?_
                refine x_A k148_71 (fun _ => rfl) ?_
                refine x_A k148_72 (fun _ => rfl) ?_
                refine x_getI k148_73 (f := 0) rfl (q := 256) (n := 62) (kd := 15) ⟨by decide, rfl⟩ (by decide) rfl ?_
                refine x_rw (e_z2.symm) ?_
                refine x_iast k148_76 (q := 258) (n := 40) ⟨by decide, rfl⟩ (by decide) (by first | exact x_rbl b_a rfl rfl | exact ⟨by omega, by omega⟩) ?_
                refine x_nh (fun s38 e_s38 => ?_)
                have hG_s38 : GI s38 := by rw [e_s38]; exact hG0.up (show (-1) ≤ z2 ∧ z2 ≤ 9 from (by first | exact x_rbe e_z2 g_z2 rfl rfl | exact x_rb g_z2 rfl rfl | exact ⟨by omega, by omega⟩))
                have f_s38 : FL [4224, 4288] s0 s38 := by rw [e_s38]; exact f0.up (show 4224 ∈ [4224, 4288] from by decide +kernel)
                have q39 : s38 256 1 = z1 := by rw [e_s38, x_up_q (by decide)]; exact e_z1.symm
                have q40 : s38 256 0 = z2 := by rw [e_s38, x_up_q (by decide)]; exact e_z2.symm
                have q41 : s38 258 a.toNat = z2 := by rw [e_s38]; exact x_up_same
                refine x_A k148_77 (fun _ => rfl) ?_
                refine x_getR k148_78 (f := 4) rfl (q := 256) (n := 62) (kd := 15) ⟨by decide, rfl⟩ (q2 := 259) (by decide) rfl ?_
                refine x_A k148_81 (fun _ => rfl) ?_
                refine x_A k148_82 (fun _ => rfl) ?_
                refine x_iast k148_83 (q := 259) (n := 40) ⟨by decide, rfl⟩ (by decide) (by first | exact x_rbl b_a rfl rfl | exact ⟨by omega, by omega⟩) ?_
                refine x_nh (fun s42 e_s42 => ?_)
                have hG_s42 : GI s42 := by rw [e_s42]; exact hG_s38.up (show (-1) ≤ b ∧ b ≤ 39 from (by first | exact x_rb b_b rfl rfl | exact ⟨by omega, by omega⟩))
                have f_s42 : FL [4224, 4288] s0 s42 := by rw [e_s42]; exact f_s38.up (show 4288 ∈ [4224, 4288] from by decide +kernel)
                have q43 : s42 256 1 = z1 := by rw [e_s42, x_up_q (by decide)]; exact q39
                have q44 : s42 256 0 = z2 := by rw [e_s42, x_up_q (by decide)]; exact q40
                have q45 : s42 258 a.toNat = z2 := by rw [e_s42, x_up_q (by first | decide | omega)]; exact q41
                have q46 : s42 259 a.toNat = b := by rw [e_s42]; exact x_up_same
                have J_e : J s42 := by rw [e_s42, e_s38]; exact J.end i0_J hG0 e_z2 ⟨by omega, by omega⟩ (by omega) (by omega)
                refine x_A k148_84 (fun _ => rfl) ?_
                refine x_A k148_85 (fun _ => rfl) ?_
                refine x_A k148_86 (fun _ => rfl) ?_
                refine x_getI k148_87 (f := 0) rfl (q := 256) (n := 62) (kd := 15) ⟨by decide, rfl⟩ (by decide) rfl ?_
                refine x_rw (q44) ?_
                refine x_callV k148_90 (y := 144) (n := 2) (w0 := 0) (w1 := 2) (as := [vi a, vi z2]) (rest := []) (by decide +kernel) (q := 256) (nq := 62) (kq := 15) ⟨by decide, rfl⟩ rfl rfl rfl rfl (xe_mono (C_X11_belowMany_256 s42 hG_s42 J_e a (by first | exact x_rb b_a rfl rfl | exact ⟨by omega, by omega⟩) z2 (by first | exact x_rbe e_z2 g_z2 rfl rfl | exact x_rb g_z2 rfl rfl | exact ⟨by omega, by omega⟩)) ?_)
                rintro s48 v ⟨-, t_s48, z47, rfl, g_z47⟩
                rw [t_s48.nil]
                show xe none 148 93 [(0, .ref 256), (1, vi a), (2, vi b)] [vi z47] s42 0 0 _
                refine x_A k148_93 (fun _ => rfl) ?_
                refine x_isub k148_94 ?_
                refine x_top (fun z49 e_z49 => ?_)
                exact x_iret k148_95 rfl ⟨hG_s42, f_s42, z49, rfl, (by first | exact x_rbe e_z49 g_z49 rfl rfl | exact x_rb g_z49 rfl rfl | exact ⟨by omega, by omega⟩), (by unfold EnR; exact Or.inr (Or.inr ⟨by omega, by omega, fun j => by rw [e_s42, x_up_q (by decide), e_s38, x_up_at, show z2 = s0 256 0 by omega]⟩)), J_e⟩
              · rw [e_z35]
                show xe none 148 60 [(0, .ref 256), (1, vi a), (2, vi b)] [vi 0] s0 0 0 _
                refine x_if_ne k148_60 (t := 67) rfl ⟨by decide, by decide⟩ (fun c50 => by exfalso; omega) (fun c50 => ?_)
                refine x_sipush k148_63 (by decide +kernel) ?_
                exact x_iret k148_66 rfl ⟨hG0, f0, (-1003), rfl, ⟨by decide, by decide⟩, (by unfold EnR; exact Or.inr (Or.inl ⟨by omega, by omega, rfl⟩)), i0_J⟩
            · rw [e_z31]
              show xe none 148 43 [(0, .ref 256), (1, vi a), (2, vi b)] [vi 0] s0 0 0 _
              refine x_if_eq k148_43 (t := 63) rfl ⟨by decide, by decide⟩ (fun c51 => ?_) (fun c51 => by exfalso; omega)
              refine x_sipush k148_63 (by decide +kernel) ?_
              exact x_iret k148_66 rfl ⟨hG0, f0, (-1003), rfl, ⟨by decide, by decide⟩, (by unfold EnR; exact Or.inr (Or.inl ⟨by omega, by omega, rfl⟩)), i0_J⟩
      · rw [e_z26]
        show xe none 148 18 [(0, .ref 256), (1, vi a), (2, vi b)] [vi 0] s0 0 0 _
        refine x_if_ne k148_18 (t := 25) rfl ⟨by decide, by decide⟩ (fun c52 => by exfalso; omega) (fun c52 => ?_)
        refine x_sipush k148_21 (by decide +kernel) ?_
        exact x_iret k148_24 rfl ⟨hG0, f0, (-1001), rfl, ⟨by decide, by decide⟩, (by unfold EnR; exact Or.inl ⟨by omega, rfl⟩), i0_J⟩
  · rw [e_z3]
    show xe none 148 5 [(0, .ref 256), (1, vi a), (2, vi b)] [vi 0] s0 0 0 _
    refine x_if_eq k148_5 (t := 21) rfl ⟨by decide, by decide⟩ (fun c53 => ?_) (fun c53 => by exfalso; omega)
    refine x_sipush k148_21 (by decide +kernel) ?_
    exact x_iret k148_24 rfl ⟨hG0, f0, (-1001), rfl, ⟨by decide, by decide⟩, (by unfold EnR; exact Or.inl ⟨by omega, rfl⟩), i0_J⟩
set_option maxHeartbeats 8000000 in
theorem L_E_J7_fill_53178_g57_5 (s0 : xS) (q : Nat) (b_q : 57 ≤ q ∧ q ≤ 176) (a : Int) (b_a : (-1) ≤ a ∧ a ≤ 9)  : ∀ (n : Nat) (s : xS) (x0 : Nat) (x1 : Int) (x2 : Int) (x3 : Int) (hG : GI s) (f : FL [1152] s0 s) (b_x0 : 57 ≤ x0 ∧ x0 ≤ 176) (b_x1 : (-1) ≤ x1 ∧ x1 ≤ 9) (b_x2 : 0 ≤ x2 ∧ x2 ≤ 8) (b_x3 : 8 ≤ x3 ∧ x3 ≤ 8) (r_3_2 : x3 ≤ x2 + 8) (w_0 : x0 = q) (w_1 : x1 = a) (w_2 : x3 = 8) (w_3 : ∀ r j : Nat, 57 ≤ r → r ≤ 176 → s r j = if r = q ∧ (j : Int) < x2 then a else s0 r j)  (hm : (8 - x2) < (n : Int)), xe none 229 5 [(0, .ref x0), (1, vi x1), (2, vi x2), (3, vi x3)] [] s 0 0 (fun s' v => GI s' ∧ FL [1152] s0 s' ∧ v = none ∧ (∀ r j : Nat, 57 ≤ r → r ≤ 176 → s' r j = if r = q ∧ (j : Int) < 8 then a else s0 r j)) := by
  intro n
  induction n with
  | zero => intro s x0 x1 x2 x3 hG f b_x0 b_x1 b_x2 b_x3 r_3_2 w_0 w_1 w_2 w_3  hm; exfalso; omega
  | succ n ih =>
    intro s x0 x1 x2 x3 hG f b_x0 b_x1 b_x2 b_x3 r_3_2 w_0 w_1 w_2 w_3  hm
    refine x_A k229_5 (fun _ => rfl) ?_
    refine x_A k229_6 (fun _ => rfl) ?_
    refine x_ic_ge k229_7 (t := 20) rfl (by first | exact x_rb b_x2 rfl rfl | exact ⟨by omega, by omega⟩) (by first | exact x_rb b_x3 rfl rfl | exact ⟨by omega, by omega⟩) (fun c45 => ?_) (fun c45 => ?_)
    · skip
      exact x_vret k229_20 rfl ⟨hG, f, rfl, (by rw [show x2 = 8 by omega] at w_3; exact w_3)⟩
    · skip
      refine x_A k229_10 (fun _ => rfl) ?_
      refine x_A k229_11 (fun _ => rfl) ?_
      refine x_A k229_12 (fun _ => rfl) ?_
      refine x_iast k229_13 (q := x0) (n := 8) (xg_57 (by omega) (by omega)) (by decide) (by first | exact x_rbl b_x2 rfl rfl | exact ⟨by omega, by omega⟩) ?_
      refine x_nh (fun s46 e_s46 => ?_)
      have w47 := gr_57 x2.toNat (show 57 ≤ x0 by omega) (by omega)
      have hG_s46 : GI s46 := by rw [e_s46]; exact hG.up (by rw [w47.1, w47.2.1]; exact (show (-1) ≤ x1 ∧ x1 ≤ 9 from (by first | exact x_rb b_x1 rfl rfl | exact ⟨by omega, by omega⟩)))
      have f_s46 : FL [1152] s0 s46 := by rw [e_s46]; exact f.up (by rw [w47.2.2]; decide)
      have q48 : s46 x0 x2.toNat = x1 := by rw [e_s46]; exact x_up_same
      refine x_iinc k229_14 (ls' := [(2, vi (x2 + 1)), (0, .ref x0), (1, vi x1), (3, vi x3)]) rfl (by decide) rfl ?_
      refine x_goto k229_17 (t := 5) rfl ?_
      refine x_ls (l := [(0, .ref x0), (1, vi x1), (2, vi (x2 + 1)), (3, vi x3)]) (show ([0, 1, 2, 3] : List Nat).Nodup from by decide +kernel) ⟨rfl, rfl, rfl, rfl, trivial⟩ ?_
      exact ih s46 x0 x1 (x2 + 1) x3 hG_s46 f_s46 ⟨by omega, by omega⟩ (by first | exact x_rb b_x1 rfl rfl | exact ⟨by omega, by omega⟩) ⟨by omega, by omega⟩ (by first | exact x_rb b_x3 rfl rfl | exact ⟨by omega, by omega⟩) (by omega) (by omega) (by omega) (by omega) (by rw [e_s46, show x1 = a by omega]; exact fl_up w_3 (by omega) (by omega))  (by omega)
set_option maxHeartbeats 8000000 in
theorem E_J7_fill_53178_g57 (s0 : xS) (hG0 : GI s0) (q : Nat) (b_q : 57 ≤ q ∧ q ≤ 176) (a : Int) (b_a : (-1) ≤ a ∧ a ≤ 9) : xe none 229 0 (lv_args 0 [.ref q, vi a]) [] s0 0 0 (fun s' v => GI s' ∧ FL [1152] s0 s' ∧ v = none ∧ (∀ r j : Nat, 57 ≤ r → r ≤ 176 → s' r j = if r = q ∧ (j : Int) < 8 then a else s0 r j)) := by
  have f0 : FL [1152] s0 s0 := FL.rf
  show xe none 229 0 [(0, .ref q), (1, vi a)] [] s0 0 0 _
  refine x_A k229_0 (fun _ => rfl) ?_
  refine x_istore_n k229_1 (ls' := [(2, vi 0), (0, .ref q), (1, vi a)]) (by decide) rfl ?_
  refine x_A k229_2 (fun _ => rfl) ?_
  refine x_alen k229_3 (q := q) (t := 20) (n := 8) (kd := 0) (xg_57 (by omega) (by omega)) (by decide) ?_
  refine x_top (fun z49 e_z49 => ?_)
  refine x_istore_n k229_4 (ls' := [(3, vi z49), (2, vi 0), (0, .ref q), (1, vi a)]) (by decide) rfl ?_
  refine x_ls (l := [(0, .ref q), (1, vi a), (2, vi 0), (3, vi z49)]) (show ([0, 1, 2, 3] : List Nat).Nodup from by decide +kernel) ⟨rfl, rfl, rfl, rfl, trivial⟩ ?_
  exact L_E_J7_fill_53178_g57_5 s0 q b_q a b_a  (((8 - 0) + 1 : Int)).toNat s0 q a 0 z49 hG0 f0 ⟨by omega, by omega⟩ (by first | exact x_rb b_a rfl rfl | exact ⟨by omega, by omega⟩) ⟨by decide, by decide⟩ (by first | exact x_rbe e_z49 g_z49 rfl rfl | exact x_rb g_z49 rfl rfl | exact ⟨by omega, by omega⟩) (by omega) (by omega) (by omega) (by omega) (fun r j _ _ => by rw [if_neg (by omega)])  (by omega)
