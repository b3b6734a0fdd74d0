set_option maxHeartbeats 8000000 in
theorem W_X10_told_0 (s0 : xS) (hG0 : GI s0) (hJ0 : J s0) (a : Int) (b_a : (-2147483648) ≤ a ∧ a ≤ 2147483647) (b : Int) (b_b : (-2147483648) ≤ b ∧ b ≤ 2147483647) (p_50_6 : 0 ≤ s0 50 6 ∧ s0 50 6 ≤ 120) (p_0_10 : 0 ≤ s0 0 10 ∧ s0 0 10 ≤ 9) (pR : R1 s0) (i0_VCj : VCj s0) (i0_VCl : VCl s0) : xe none 100 0 (lv_args 0 [.ref 0, vi a, vi b]) [] s0 0 0 (fun s' v => GI s' ∧ FL [3329, 3334, 3335, 3336, 3392, 3456, 3520, 3584, 3276, 3648, 3712, 3776, 3840, 3904, 3968, 3277, 4032] s0 s' ∧ ∃ z, v = some (vi z) ∧ ((-1004) ≤ z ∧ z ≤ 127) ∧ (ToC s0 a b z) ∧ VCj s' ∧ VCl s') := by
  have f0 : FL [3329, 3334, 3335, 3336, 3392, 3456, 3520, 3584, 3276, 3648, 3712, 3776, 3840, 3904, 3968, 3277, 4032] s0 s0 := FL.rf
  show xe none 100 0 [(0, .ref 0), (1, vi a), (2, vi b)] [] s0 0 0 _
  obtain ⟨z1, e_z1⟩ : ∃ z, z = s0 50 6 := ⟨_, rfl⟩
  have g_z1 : (0 : Int) ≤ s0 50 6 ∧ s0 50 6 ≤ 120 := hG0 50 6
  obtain ⟨z2, e_z2⟩ : ∃ z, z = s0 0 10 := ⟨_, rfl⟩
  have g_z2 : (0 : Int) ≤ s0 0 10 ∧ s0 0 10 ≤ 9 := hG0 0 10
  refine x_A k100_0 (fun _ => rfl) ?_
  refine x_getR k100_1 (f := 2) rfl (q := 0) (n := 12) (kd := 3) ⟨by decide, rfl⟩ (q2 := 50) (by decide) rfl ?_
  refine x_A k100_4 (fun _ => rfl) ?_
  refine x_callV k100_5 (y := 24) (n := 1) (w0 := 0) (w1 := 1) (as := [vi a]) (rest := []) (by decide +kernel) (q := 50) (nq := 7) (kq := 6) ⟨by decide, rfl⟩ rfl rfl rfl rfl (xe_mono (C_X2_has_50 s0 hG0 a (by first | exact x_rb b_a rfl rfl | exact ⟨by omega, by omega⟩)) ?_)
  rintro s4 v ⟨h_s4, z3, rfl, hz_z3⟩
  rw [h_s4]
  rcases hz_z3 with ⟨c_z3, e_z3⟩ | ⟨c_z3, e_z3⟩
  · rw [e_z3]
    show xe none 100 8 [(0, .ref 0), (1, vi a), (2, vi b)] [vi 1] s0 0 0 _
    refine x_if_ne k100_8 (t := 15) rfl ⟨by decide, by decide⟩ (fun c5 => ?_) (fun c5 => by exfalso; omega)
    refine x_A k100_15 (fun _ => rfl) ?_
    refine x_A k100_16 (fun _ => rfl) ?_
    refine x_bipush k100_17 (by decide +kernel) ?_
    refine x_callS k100_19 (y := 121) (n := 3) (w0 := 0) (w1 := 3) (as := [vi b, vi 0, vi 6]) (rest := []) (by decide +kernel) rfl rfl rfl rfl (xe_mono (C_X10_isWithin s0 hG0 b (by first | exact x_rb b_b rfl rfl | exact ⟨by omega, by omega⟩) 0 ⟨by decide, by decide⟩ 6 ⟨by decide, by decide⟩) ?_)
    rintro s7 v ⟨h_s7, z6, rfl, hz_z6⟩
    rw [h_s7]
    rcases hz_z6 with ⟨c_z6, e_z6⟩ | ⟨c_z6, e_z6⟩
    · rw [e_z6]
      show xe none 100 22 [(0, .ref 0), (1, vi a), (2, vi b)] [vi 1] s0 0 0 _
      refine x_if_ne k100_22 (t := 29) rfl ⟨by decide, by decide⟩ (fun c8 => ?_) (fun c8 => by exfalso; omega)
      refine x_A k100_29 (fun _ => rfl) ?_
      have c9 : b = 0 ∨ b = 1 ∨ b = 2 ∨ b = 3 ∨ b = 4 ∨ b = 5 ∨ ¬ (0 ≤ b ∧ b ≤ 5) := by omega
      rcases c9 with c9 | c9 | c9 | c9 | c9 | c9 | c9
      · rw [c9]
        refine x_B k100_30 rfl (fun _ => rfl) (fun _ => rfl) (fun _ _ => rfl) ?_
        show xe none 100 68 [(0, .ref 0), (1, vi a), (2, vi 0)] [] s0 0 0 _
        refine x_A k100_68 (fun _ => rfl) ?_
        refine x_getR k100_69 (f := 2) rfl (q := 0) (n := 12) (kd := 3) ⟨by decide, rfl⟩ (q2 := 50) (by decide) rfl ?_
        refine x_getR k100_72 (f := 0) rfl (q := 50) (n := 7) (kd := 6) ⟨by decide, rfl⟩ (q2 := 51) (by decide) rfl ?_
        refine x_A k100_75 (fun _ => rfl) ?_
        refine x_iald k100_76 (q := 51) (n := 120) ⟨by decide, rfl⟩ (by decide) (by first | exact x_rbl b_a rfl rfl | exact ⟨by omega, by omega⟩) ?_
        refine x_top (fun z10 e_z10 => ?_)
        have g_z10 : (0 : Int) ≤ s0 51 a.toNat ∧ s0 51 a.toNat ≤ 39 := hG0 51 a.toNat
        exact x_iret k100_77 rfl ⟨hG0, f0, z10, rfl, (by first | exact x_rbe e_z10 g_z10 rfl rfl | exact x_rb g_z10 rfl rfl | exact ⟨by omega, by omega⟩), (by unfold ToC; exact Or.inr (Or.inr ⟨by omega, by omega, (show z10 = toC s0 a 0 from by unfold toC; rw [if_pos rfl]; exact e_z10)⟩)), i0_VCj, i0_VCl⟩
      · rw [c9]
        refine x_B k100_30 rfl (fun _ => rfl) (fun _ => rfl) (fun _ _ => rfl) ?_
        show xe none 100 78 [(0, .ref 0), (1, vi a), (2, vi 1)] [] s0 0 0 _
        refine x_A k100_78 (fun _ => rfl) ?_
        refine x_getR k100_79 (f := 2) rfl (q := 0) (n := 12) (kd := 3) ⟨by decide, rfl⟩ (q2 := 50) (by decide) rfl ?_
        refine x_getR k100_82 (f := 1) rfl (q := 50) (n := 7) (kd := 6) ⟨by decide, rfl⟩ (q2 := 52) (by decide) rfl ?_
        refine x_A k100_85 (fun _ => rfl) ?_
        refine x_iald k100_86 (q := 52) (n := 120) ⟨by decide, rfl⟩ (by decide) (by first | exact x_rbl b_a rfl rfl | exact ⟨by omega, by omega⟩) ?_
        refine x_top (fun z11 e_z11 => ?_)
        have g_z11 : (0 : Int) ≤ s0 52 a.toNat ∧ s0 52 a.toNat ≤ 39 := hG0 52 a.toNat
        exact x_iret k100_87 rfl ⟨hG0, f0, z11, rfl, (by first | exact x_rbe e_z11 g_z11 rfl rfl | exact x_rb g_z11 rfl rfl | exact ⟨by omega, by omega⟩), (by unfold ToC; exact Or.inr (Or.inr ⟨by omega, by omega, (show z11 = toC s0 a 1 from by unfold toC; rw [if_neg (by decide), if_pos rfl]; exact e_z11)⟩)), i0_VCj, i0_VCl⟩
      · rw [c9]
        refine x_B k100_30 rfl (fun _ => rfl) (fun _ => rfl) (fun _ _ => rfl) ?_
        show xe none 100 88 [(0, .ref 0), (1, vi a), (2, vi 2)] [] s0 0 0 _
        refine x_A k100_88 (fun _ => rfl) ?_
        refine x_getR k100_89 (f := 2) rfl (q := 0) (n := 12) (kd := 3) ⟨by decide, rfl⟩ (q2 := 50) (by decide) rfl ?_
        refine x_getR k100_92 (f := 2) rfl (q := 50) (n := 7) (kd := 6) ⟨by decide, rfl⟩ (q2 := 53) (by decide) rfl ?_
        refine x_A k100_95 (fun _ => rfl) ?_
        refine x_iald k100_96 (q := 53) (n := 120) ⟨by decide, rfl⟩ (by decide) (by first | exact x_rbl b_a rfl rfl | exact ⟨by omega, by omega⟩) ?_
        refine x_top (fun z12 e_z12 => ?_)
        have g_z12 : (0 : Int) ≤ s0 53 a.toNat ∧ s0 53 a.toNat ≤ 7 := hG0 53 a.toNat
        exact x_iret k100_97 rfl ⟨hG0, f0, z12, rfl, (by first | exact x_rbe e_z12 g_z12 rfl rfl | exact x_rb g_z12 rfl rfl | exact ⟨by omega, by omega⟩), (by unfold ToC; exact Or.inr (Or.inr ⟨by omega, by omega, (show z12 = toC s0 a 2 from by unfold toC; rw [if_neg (by decide), if_neg (by decide), if_pos rfl]; exact e_z12)⟩)), i0_VCj, i0_VCl⟩
      · rw [c9]
        refine x_B k100_30 rfl (fun _ => rfl) (fun _ => rfl) (fun _ _ => rfl) ?_
        show xe none 100 98 [(0, .ref 0), (1, vi a), (2, vi 3)] [] s0 0 0 _
        refine x_A k100_98 (fun _ => rfl) ?_
        refine x_getR k100_99 (f := 2) rfl (q := 0) (n := 12) (kd := 3) ⟨by decide, rfl⟩ (q2 := 50) (by decide) rfl ?_
        refine x_getR k100_102 (f := 3) rfl (q := 50) (n := 7) (kd := 6) ⟨by decide, rfl⟩ (q2 := 54) (by decide) rfl ?_
        refine x_A k100_105 (fun _ => rfl) ?_
        refine x_iald k100_106 (q := 54) (n := 120) ⟨by decide, rfl⟩ (by decide) (by first | exact x_rbl b_a rfl rfl | exact ⟨by omega, by omega⟩) ?_
        refine x_top (fun z13 e_z13 => ?_)
        have g_z13 : (0 : Int) ≤ s0 54 a.toNat ∧ s0 54 a.toNat ≤ 63 := hG0 54 a.toNat
        exact x_iret k100_107 rfl ⟨hG0, f0, z13, rfl, (by first | exact x_rbe e_z13 g_z13 rfl rfl | exact x_rb g_z13 rfl rfl | exact ⟨by omega, by omega⟩), (by unfold ToC; exact Or.inr (Or.inr ⟨by omega, by omega, (show z13 = toC s0 a 3 from by unfold toC; rw [if_neg (by decide), if_neg (by decide), if_neg (by decide), if_pos rfl]; exact e_z13)⟩)), i0_VCj, i0_VCl⟩
      · rw [c9]
        refine x_B k100_30 rfl (fun _ => rfl) (fun _ => rfl) (fun _ _ => rfl) ?_
        show xe none 100 108 [(0, .ref 0), (1, vi a), (2, vi 4)] [] s0 0 0 _
        refine x_A k100_108 (fun _ => rfl) ?_
        refine x_getR k100_109 (f := 2) rfl (q := 0) (n := 12) (kd := 3) ⟨by decide, rfl⟩ (q2 := 50) (by decide) rfl ?_
        refine x_getR k100_112 (f := 4) rfl (q := 50) (n := 7) (kd := 6) ⟨by decide, rfl⟩ (q2 := 55) (by decide) rfl ?_
        refine x_A k100_115 (fun _ => rfl) ?_
        refine x_iald k100_116 (q := 55) (n := 120) ⟨by decide, rfl⟩ (by decide) (by first | exact x_rbl b_a rfl rfl | exact ⟨by omega, by omega⟩) ?_
        refine x_top (fun z14 e_z14 => ?_)
        have g_z14 : (0 : Int) ≤ s0 55 a.toNat ∧ s0 55 a.toNat ≤ 9 := hG0 55 a.toNat
        exact x_iret k100_117 rfl ⟨hG0, f0, z14, rfl, (by first | exact x_rbe e_z14 g_z14 rfl rfl | exact x_rb g_z14 rfl rfl | exact ⟨by omega, by omega⟩), (by unfold ToC; exact Or.inr (Or.inr ⟨by omega, by omega, (show z14 = toC s0 a 4 from by unfold toC; rw [if_neg (by decide), if_neg (by decide), if_neg (by decide), if_neg (by decide), if_pos rfl]; exact e_z14)⟩)), i0_VCj, i0_VCl⟩
      · rw [c9]
        refine x_B k100_30 rfl (fun _ => rfl) (fun _ => rfl) (fun _ _ => rfl) ?_
        show xe none 100 118 [(0, .ref 0), (1, vi a), (2, vi 5)] [] s0 0 0 _
        refine x_A k100_118 (fun _ => rfl) ?_
        refine x_getR k100_119 (f := 9) rfl (q := 0) (n := 12) (kd := 3) ⟨by decide, rfl⟩ (q2 := 243) (by decide) rfl ?_
        refine x_callV k100_122 (y := 74) (n := 0) (w0 := 0) (w1 := 0) (as := []) (rest := []) (by decide +kernel) (q := 243) (nq := 13) (kq := 13) ⟨by decide, rfl⟩ rfl rfl rfl rfl (xe_mono (E_X8_judge_243 s0 hG0 (hJ0.fl f0 (by decide)) (pR.fl f0 (by decide)) i0_VCj) ?_)
        rintro s16 v ⟨hG_s16, t_s16, rfl, xp_z15⟩
        have f_s16 : FL [3329, 3334, 3335, 3336, 3392, 3456, 3520, 3584, 3276, 3648, 3712, 3776, 3840, 3904, 3968, 3277, 4032] s0 s16 := f0.tr t_s16 (by decide)
        have q17 : s16 50 6 = z1 := (t_s16 50 6 (show 711 ∉ [3329, 3334, 3335, 3336, 3392, 3456, 3520, 3584, 3276, 3648, 3712, 3776, 3840] from by decide)).trans e_z1.symm
        have q18 : s16 0 10 = z2 := (t_s16 0 10 (show 11 ∉ [3329, 3334, 3335, 3336, 3392, 3456, 3520, 3584, 3276, 3648, 3712, 3776, 3840] from by decide)).trans e_z2.symm
        obtain ⟨z19, e_z19⟩ : ∃ z, z = s16 243 11 := ⟨_, rfl⟩
        have g_z19 : (0 : Int) ≤ s16 243 11 ∧ s16 243 11 ≤ 1 := hG_s16 243 11
        show xe none 100 125 [(0, .ref 0), (1, vi a), (2, vi 5)] [] s16 0 0 _
        have VCj_d : VCj s16 := VCj.judge hG0 t_s16 (by decide) xp_z15.1
        have VCl_d : VCl s16 := VCl.judge i0_VCl hG0 t_s16 (by decide) xp_z15.2
        refine x_A k100_125 (fun _ => rfl) ?_
        refine x_getR k100_126 (f := 9) rfl (q := 0) (n := 12) (kd := 3) ⟨by decide, rfl⟩ (q2 := 243) (by decide) rfl ?_
        refine x_getR k100_129 (f := 7) rfl (q := 243) (n := 13) (kd := 13) ⟨by decide, rfl⟩ (q2 := 252) (by decide) rfl ?_
        refine x_A k100_132 (fun _ => rfl) ?_
        refine x_iald k100_133 (q := 252) (n := 120) ⟨by decide, rfl⟩ (by decide) (by first | exact x_rbl b_a rfl rfl | exact ⟨by omega, by omega⟩) ?_
        refine x_top (fun z20 e_z20 => ?_)
        have g_z20 : (0 : Int) ≤ s16 252 a.toNat ∧ s16 252 a.toNat ≤ 4 := hG_s16 252 a.toNat
        exact x_iret k100_134 rfl ⟨hG_s16, f_s16, z20, rfl, (by first | exact x_rbe e_z20 g_z20 rfl rfl | exact x_rb g_z20 rfl rfl | exact ⟨by omega, by omega⟩), (by unfold ToC; exact Or.inr (Or.inr ⟨by omega, by omega, (show z20 = toC s0 a 5 from by unfold toC; rw [if_neg (by decide), if_neg (by decide), if_neg (by decide), if_neg (by decide), if_neg (by decide), if_pos rfl]; exact by rw [e_z20]; exact (xp_z15.1 a (by omega) (by omega)).1)⟩)), VCj_d, VCl_d⟩
      · refine x_tabD k100_30 ⟨by omega, by omega⟩ c9 (t0 := 135) rfl ?_
        refine x_A k100_135 (fun _ => rfl) ?_
        refine x_getR k100_136 (f := 2) rfl (q := 0) (n := 12) (kd := 3) ⟨by decide, rfl⟩ (q2 := 50) (by decide) rfl ?_
        refine x_A k100_139 (fun _ => rfl) ?_
        refine x_A k100_140 (fun _ => rfl) ?_
        refine x_getI k100_141 (f := 10) rfl (q := 0) (n := 12) (kd := 3) ⟨by decide, rfl⟩ (by decide) rfl ?_
        refine x_rw (e_z2.symm) ?_
        refine x_callV k100_144 (y := 26) (n := 2) (w0 := 0) (w1 := 2) (as := [vi a, vi z2]) (rest := []) (by decide +kernel) (q := 50) (nq := 7) (kq := 6) ⟨by decide, rfl⟩ rfl rfl rfl rfl (xe_mono (E_X2_doubters_50 s0 hG0 a (by first | exact x_rb b_a rfl rfl | exact ⟨by omega, by omega⟩) z2 (by first | exact x_rbe e_z2 g_z2 rfl rfl | exact x_rb g_z2 rfl rfl | exact ⟨by omega, by omega⟩) ⟨by omega, by omega⟩) ?_)
        rintro s22 v ⟨-, t_s22, z21, rfl, g_z21, xp_z21⟩
        rw [t_s22.nil]
        try rw [t_s22.nil] at xp_z21
        show xe none 100 147 [(0, .ref 0), (1, vi a), (2, vi b)] [vi z21] s0 0 0 _
        exact x_iret k100_147 rfl ⟨hG0, f0, z21, rfl, (by first | exact x_rbe e_z21 g_z21 rfl rfl | exact x_rb g_z21 rfl rfl | exact ⟨by omega, by omega⟩), (by unfold ToC; exact Or.inr (Or.inr ⟨by omega, by omega, by rw [show b = 6 by omega]; show z21 = toC s0 a 6; unfold toC; rw [if_neg (by decide), if_neg (by decide), if_neg (by decide), if_neg (by decide), if_neg (by decide), if_neg (by decide)]; exact xp_z21.elim (fun q => by exfalso; omega) (fun q => by rw [q.2]; unfold dcC; rw [show z2 = s0 0 10 by omega])⟩)), i0_VCj, i0_VCl⟩
    · rw [e_z6]
      show xe none 100 22 [(0, .ref 0), (1, vi a), (2, vi b)] [vi 0] s0 0 0 _
      refine x_if_ne k100_22 (t := 29) rfl ⟨by decide, by decide⟩ (fun c23 => by exfalso; omega) (fun c23 => ?_)
      refine x_sipush k100_25 (by decide +kernel) ?_
      exact x_iret k100_28 rfl ⟨hG0, f0, (-1002), rfl, ⟨by decide, by decide⟩, (by unfold ToC; exact Or.inr (Or.inl ⟨by omega, by omega, rfl⟩)), i0_VCj, i0_VCl⟩
  · rw [e_z3]
    show xe none 100 8 [(0, .ref 0), (1, vi a), (2, vi b)] [vi 0] s0 0 0 _
    refine x_if_ne k100_8 (t := 15) rfl ⟨by decide, by decide⟩ (fun c24 => by exfalso; omega) (fun c24 => ?_)
    refine x_sipush k100_11 (by decide +kernel) ?_
    exact x_iret k100_14 rfl ⟨hG0, f0, (-1001), rfl, ⟨by decide, by decide⟩, (by unfold ToC; exact Or.inl ⟨by omega, rfl⟩), i0_VCj, i0_VCl⟩
