set_option maxHeartbeats 8000000 in
theorem E_X10_force_0 (s0 : xS) (hG0 : GI s0) (hJ0 : J s0) (a : Int) (b_a : (-2147483648) ≤ a ∧ a ≤ 2147483647) (b : Int) (b_b : (-2147483648) ≤ b ∧ b ≤ 2147483647) (pR : R1 s0) : xe none 107 0 (lv_args 0 [.ref 0, vi a, vi b]) [] s0 0 0 (fun s' v => GI s' ∧ FL [1921, 1926, 1927, 1928, 1984, 2048, 2112, 2176] s0 s' ∧ ∃ z, v = some (vi z) ∧ ((-2147483648) ≤ z ∧ z ≤ 2147483647) ∧ (FzC s0 a b z)) := by
  have f0 : FL [1921, 1926, 1927, 1928, 1984, 2048, 2112, 2176] s0 s0 := FL.rf
  show xe none 107 0 [(0, .ref 0), (1, vi a), (2, vi b)] [] s0 0 0 _
  refine x_A k107_0 (fun _ => rfl) ?_
  refine x_A k107_1 (fun _ => rfl) ?_
  refine x_bipush k107_2 (by decide +kernel) ?_
  refine x_callS k107_4 (y := 121) (n := 3) (w0 := 0) (w1 := 3) (as := [vi a, vi 0, vi 9]) (rest := []) (by decide +kernel) rfl rfl rfl rfl (xe_mono (C_X10_isWithin s0 hG0 a (by first | exact x_rb b_a rfl rfl | exact ⟨by omega, by omega⟩) 0 ⟨by decide, by decide⟩ 9 ⟨by decide, by decide⟩) ?_)
  rintro s2 v ⟨h_s2, z1, rfl, hz_z1⟩
  rw [h_s2]
  rcases hz_z1 with ⟨c_z1, e_z1⟩ | ⟨c_z1, e_z1⟩
  · rw [e_z1]
    show xe none 107 7 [(0, .ref 0), (1, vi a), (2, vi b)] [vi 1] s0 0 0 _
    refine x_if_eq k107_7 (t := 20) rfl ⟨by decide, by decide⟩ (fun c3 => by exfalso; omega) (fun c3 => ?_)
    refine x_A k107_10 (fun _ => rfl) ?_
    refine x_A k107_11 (fun _ => rfl) ?_
    refine x_bipush k107_12 (by decide +kernel) ?_
    refine x_callS k107_14 (y := 121) (n := 3) (w0 := 0) (w1 := 3) (as := [vi b, vi 0, vi 9]) (rest := []) (by decide +kernel) rfl rfl rfl rfl (xe_mono (C_X10_isWithin s0 hG0 b (by first | exact x_rb b_b rfl rfl | exact ⟨by omega, by omega⟩) 0 ⟨by decide, by decide⟩ 9 ⟨by decide, by decide⟩) ?_)
    rintro s5 v ⟨h_s5, z4, rfl, hz_z4⟩
    rw [h_s5]
    rcases hz_z4 with ⟨c_z4, e_z4⟩ | ⟨c_z4, e_z4⟩
    · rw [e_z4]
      show xe none 107 17 [(0, .ref 0), (1, vi a), (2, vi b)] [vi 1] s0 0 0 _
      refine x_if_ne k107_17 (t := 24) rfl ⟨by decide, by decide⟩ (fun c6 => ?_) (fun c6 => by exfalso; omega)
      refine x_A k107_24 (fun _ => rfl) ?_
      refine x_getR k107_25 (f := 5) rfl (q := 0) (n := 12) (kd := 3) ⟨by decide, rfl⟩ (q2 := 209) (by decide) rfl ?_
      refine x_A k107_28 (fun _ => rfl) ?_
      refine x_getR k107_29 (f := 4) rfl (q := 0) (n := 12) (kd := 3) ⟨by decide, rfl⟩ (q2 := 179) (by decide) rfl ?_
      refine x_A k107_32 (fun _ => rfl) ?_
      refine x_callV k107_33 (y := 16) (n := 2) (w0 := 0) (w1 := 2) (as := [.ref 179, vi a]) (rest := []) (by decide +kernel) (q := 209) (nq := 8) (kq := 9) ⟨by decide, rfl⟩ rfl rfl rfl rfl (xe_mono (E_X1_setTo_209_179 s0 hG0 (hJ0.fl f0 (by decide +kernel)) a (by first | exact x_rb b_a rfl rfl | exact ⟨by omega, by omega⟩) (pR.fl f0 (by decide +kernel))) ?_)
      rintro s8 v ⟨hG_s8, t_s8, rfl, xp_z7⟩
      have f_s8 : FL [1921, 1926, 1927, 1928, 1984, 2048, 2112, 2176] s0 s8 := f0.tr t_s8 (by decide +kernel)
      show xe none 107 36 [(0, .ref 0), (1, vi a), (2, vi b)] [] s8 0 0 _
      have fa := Fo.ans xp_z7
      refine x_A k107_36 (fun _ => rfl) ?_
      have c9 : b = 0 ∨ b = 1 ∨ b = 2 ∨ b = 3 ∨ b = 4 ∨ b = 5 ∨ b = 6 ∨ b = 7 ∨ b = 8 ∨ b = 9 := by omega
      rcases c9 with c9 | c9 | c9 | c9 | c9 | c9 | c9 | c9 | c9 | c9
      · rw [c9]
        refine x_B k107_37 rfl (fun _ => rfl) (fun _ => rfl) (fun _ _ => rfl) ?_
        show xe none 107 92 [(0, .ref 0), (1, vi a), (2, vi 0)] [] s8 0 0 _
        refine x_A k107_92 (fun _ => rfl) ?_
        refine x_getR k107_93 (f := 5) rfl (q := 0) (n := 12) (kd := 3) ⟨by decide, rfl⟩ (q2 := 209) (by decide) rfl ?_
        refine x_getI k107_96 (f := 0) rfl (q := 209) (n := 8) (kd := 9) ⟨by decide, rfl⟩ (by decide) rfl ?_
        refine x_top (fun z10 e_z10 => ?_)
        have g_z10 : (-2147483648) ≤ s8 209 0 ∧ s8 209 0 ≤ 2147483647 := hG_s8 209 0
        exact x_iret k107_99 rfl ⟨hG_s8, f_s8, z10, rfl, (by first | exact x_rbe e_z10 g_z10 rfl rfl | exact x_rb g_z10 rfl rfl | exact ⟨by omega, by omega⟩), (Or.inr ⟨by omega, by (try rw [show b = 0 by omega]); rw [e_z10]; exact fa.1⟩)⟩
      · rw [c9]
        refine x_B k107_37 rfl (fun _ => rfl) (fun _ => rfl) (fun _ _ => rfl) ?_
        show xe none 107 124 [(0, .ref 0), (1, vi a), (2, vi 1)] [] s8 0 0 _
        refine x_A k107_124 (fun _ => rfl) ?_
        refine x_getR k107_125 (f := 5) rfl (q := 0) (n := 12) (kd := 3) ⟨by decide, rfl⟩ (q2 := 209) (by decide) rfl ?_
        refine x_getR k107_128 (f := 1) rfl (q := 209) (n := 8) (kd := 9) ⟨by decide, rfl⟩ (q2 := 210) (by decide) rfl ?_
        refine x_A k107_131 (fun _ => rfl) ?_
        refine x_A k107_132 (fun _ => rfl) ?_
        refine x_isub k107_133 ?_
        refine x_top (fun z11 e_z11 => ?_)
        refine x_iald k107_134 (q := 210) (n := 6) ⟨by decide, rfl⟩ (by decide) (by first | exact x_rbel e_z11 g_z11 rfl rfl | exact x_rbl g_z11 rfl rfl | exact ⟨by omega, by omega⟩) ?_
        refine x_top (fun z12 e_z12 => ?_)
        have g_z12 : (-2147483648) ≤ s8 210 z11.toNat ∧ s8 210 z11.toNat ≤ 2147483647 := hG_s8 210 z11.toNat
        exact x_iret k107_135 rfl ⟨hG_s8, f_s8, z12, rfl, (by first | exact x_rbe e_z12 g_z12 rfl rfl | exact x_rb g_z12 rfl rfl | exact ⟨by omega, by omega⟩), (Or.inr ⟨by omega, by (try rw [show b = 1 by omega]); rw [e_z12, show z11 = 0 by omega]; exact fa.2.2.2.2 0 (by decide) (by decide)⟩)⟩
      · rw [c9]
        refine x_B k107_37 rfl (fun _ => rfl) (fun _ => rfl) (fun _ _ => rfl) ?_
        show xe none 107 124 [(0, .ref 0), (1, vi a), (2, vi 2)] [] s8 0 0 _
        refine x_A k107_124 (fun _ => rfl) ?_
        refine x_getR k107_125 (f := 5) rfl (q := 0) (n := 12) (kd := 3) ⟨by decide, rfl⟩ (q2 := 209) (by decide) rfl ?_
        refine x_getR k107_128 (f := 1) rfl (q := 209) (n := 8) (kd := 9) ⟨by decide, rfl⟩ (q2 := 210) (by decide) rfl ?_
        refine x_A k107_131 (fun _ => rfl) ?_
        refine x_A k107_132 (fun _ => rfl) ?_
        refine x_isub k107_133 ?_
        refine x_top (fun z13 e_z13 => ?_)
        refine x_iald k107_134 (q := 210) (n := 6) ⟨by decide, rfl⟩ (by decide) (by first | exact x_rbel e_z13 g_z13 rfl rfl | exact x_rbl g_z13 rfl rfl | exact ⟨by omega, by omega⟩) ?_
        refine x_top (fun z14 e_z14 => ?_)
        have g_z14 : (-2147483648) ≤ s8 210 z13.toNat ∧ s8 210 z13.toNat ≤ 2147483647 := hG_s8 210 z13.toNat
        exact x_iret k107_135 rfl ⟨hG_s8, f_s8, z14, rfl, (by first | exact x_rbe e_z14 g_z14 rfl rfl | exact x_rb g_z14 rfl rfl | exact ⟨by omega, by omega⟩), (Or.inr ⟨by omega, by (try rw [show b = 2 by omega]); rw [e_z14, show z13 = 1 by omega]; exact fa.2.2.2.2 1 (by decide) (by decide)⟩)⟩
      · rw [c9]
        refine x_B k107_37 rfl (fun _ => rfl) (fun _ => rfl) (fun _ _ => rfl) ?_
        show xe none 107 124 [(0, .ref 0), (1, vi a), (2, vi 3)] [] s8 0 0 _
        refine x_A k107_124 (fun _ => rfl) ?_
        refine x_getR k107_125 (f := 5) rfl (q := 0) (n := 12) (kd := 3) ⟨by decide, rfl⟩ (q2 := 209) (by decide) rfl ?_
        refine x_getR k107_128 (f := 1) rfl (q := 209) (n := 8) (kd := 9) ⟨by decide, rfl⟩ (q2 := 210) (by decide) rfl ?_
        refine x_A k107_131 (fun _ => rfl) ?_
        refine x_A k107_132 (fun _ => rfl) ?_
        refine x_isub k107_133 ?_
        refine x_top (fun z15 e_z15 => ?_)
        refine x_iald k107_134 (q := 210) (n := 6) ⟨by decide, rfl⟩ (by decide) (by first | exact x_rbel e_z15 g_z15 rfl rfl | exact x_rbl g_z15 rfl rfl | exact ⟨by omega, by omega⟩) ?_
        refine x_top (fun z16 e_z16 => ?_)
        have g_z16 : (-2147483648) ≤ s8 210 z15.toNat ∧ s8 210 z15.toNat ≤ 2147483647 := hG_s8 210 z15.toNat
        exact x_iret k107_135 rfl ⟨hG_s8, f_s8, z16, rfl, (by first | exact x_rbe e_z16 g_z16 rfl rfl | exact x_rb g_z16 rfl rfl | exact ⟨by omega, by omega⟩), (Or.inr ⟨by omega, by (try rw [show b = 3 by omega]); rw [e_z16, show z15 = 2 by omega]; exact fa.2.2.2.2 2 (by decide) (by decide)⟩)⟩
      · rw [c9]
        refine x_B k107_37 rfl (fun _ => rfl) (fun _ => rfl) (fun _ _ => rfl) ?_
        show xe none 107 124 [(0, .ref 0), (1, vi a), (2, vi 4)] [] s8 0 0 _
        refine x_A k107_124 (fun _ => rfl) ?_
        refine x_getR k107_125 (f := 5) rfl (q := 0) (n := 12) (kd := 3) ⟨by decide, rfl⟩ (q2 := 209) (by decide) rfl ?_
        refine x_getR k107_128 (f := 1) rfl (q := 209) (n := 8) (kd := 9) ⟨by decide, rfl⟩ (q2 := 210) (by decide) rfl ?_
        refine x_A k107_131 (fun _ => rfl) ?_
        refine x_A k107_132 (fun _ => rfl) ?_
        refine x_isub k107_133 ?_
        refine x_top (fun z17 e_z17 => ?_)
        refine x_iald k107_134 (q := 210) (n := 6) ⟨by decide, rfl⟩ (by decide) (by first | exact x_rbel e_z17 g_z17 rfl rfl | exact x_rbl g_z17 rfl rfl | exact ⟨by omega, by omega⟩) ?_
        refine x_top (fun z18 e_z18 => ?_)
        have g_z18 : (-2147483648) ≤ s8 210 z17.toNat ∧ s8 210 z17.toNat ≤ 2147483647 := hG_s8 210 z17.toNat
        exact x_iret k107_135 rfl ⟨hG_s8, f_s8, z18, rfl, (by first | exact x_rbe e_z18 g_z18 rfl rfl | exact x_rb g_z18 rfl rfl | exact ⟨by omega, by omega⟩), (Or.inr ⟨by omega, by (try rw [show b = 4 by omega]); rw [e_z18, show z17 = 3 by omega]; exact fa.2.2.2.2 3 (by decide) (by decide)⟩)⟩
      · rw [c9]
        refine x_B k107_37 rfl (fun _ => rfl) (fun _ => rfl) (fun _ _ => rfl) ?_
        show xe none 107 124 [(0, .ref 0), (1, vi a), (2, vi 5)] [] s8 0 0 _
        refine x_A k107_124 (fun _ => rfl) ?_
        refine x_getR k107_125 (f := 5) rfl (q := 0) (n := 12) (kd := 3) ⟨by decide, rfl⟩ (q2 := 209) (by decide) rfl ?_
        refine x_getR k107_128 (f := 1) rfl (q := 209) (n := 8) (kd := 9) ⟨by decide, rfl⟩ (q2 := 210) (by decide) rfl ?_
        refine x_A k107_131 (fun _ => rfl) ?_
        refine x_A k107_132 (fun _ => rfl) ?_
        refine x_isub k107_133 ?_
        refine x_top (fun z19 e_z19 => ?_)
        refine x_iald k107_134 (q := 210) (n := 6) ⟨by decide, rfl⟩ (by decide) (by first | exact x_rbel e_z19 g_z19 rfl rfl | exact x_rbl g_z19 rfl rfl | exact ⟨by omega, by omega⟩) ?_
        refine x_top (fun z20 e_z20 => ?_)
        have g_z20 : (-2147483648) ≤ s8 210 z19.toNat ∧ s8 210 z19.toNat ≤ 2147483647 := hG_s8 210 z19.toNat
        exact x_iret k107_135 rfl ⟨hG_s8, f_s8, z20, rfl, (by first | exact x_rbe e_z20 g_z20 rfl rfl | exact x_rb g_z20 rfl rfl | exact ⟨by omega, by omega⟩), (Or.inr ⟨by omega, by (try rw [show b = 5 by omega]); rw [e_z20, show z19 = 4 by omega]; exact fa.2.2.2.2 4 (by decide) (by decide)⟩)⟩
      · rw [c9]
        refine x_B k107_37 rfl (fun _ => rfl) (fun _ => rfl) (fun _ _ => rfl) ?_
        show xe none 107 124 [(0, .ref 0), (1, vi a), (2, vi 6)] [] s8 0 0 _
        refine x_A k107_124 (fun _ => rfl) ?_
        refine x_getR k107_125 (f := 5) rfl (q := 0) (n := 12) (kd := 3) ⟨by decide, rfl⟩ (q2 := 209) (by decide) rfl ?_
        refine x_getR k107_128 (f := 1) rfl (q := 209) (n := 8) (kd := 9) ⟨by decide, rfl⟩ (q2 := 210) (by decide) rfl ?_
        refine x_A k107_131 (fun _ => rfl) ?_
        refine x_A k107_132 (fun _ => rfl) ?_
        refine x_isub k107_133 ?_
        refine x_top (fun z21 e_z21 => ?_)
        refine x_iald k107_134 (q := 210) (n := 6) ⟨by decide, rfl⟩ (by decide) (by first | exact x_rbel e_z21 g_z21 rfl rfl | exact x_rbl g_z21 rfl rfl | exact ⟨by omega, by omega⟩) ?_
        refine x_top (fun z22 e_z22 => ?_)
        have g_z22 : (-2147483648) ≤ s8 210 z21.toNat ∧ s8 210 z21.toNat ≤ 2147483647 := hG_s8 210 z21.toNat
        exact x_iret k107_135 rfl ⟨hG_s8, f_s8, z22, rfl, (by first | exact x_rbe e_z22 g_z22 rfl rfl | exact x_rb g_z22 rfl rfl | exact ⟨by omega, by omega⟩), (Or.inr ⟨by omega, by (try rw [show b = 6 by omega]); rw [e_z22, show z21 = 5 by omega]; exact fa.2.2.2.2 5 (by decide) (by decide)⟩)⟩
      · rw [c9]
        refine x_B k107_37 rfl (fun _ => rfl) (fun _ => rfl) (fun _ _ => rfl) ?_
        show xe none 107 100 [(0, .ref 0), (1, vi a), (2, vi 7)] [] s8 0 0 _
        refine x_A k107_100 (fun _ => rfl) ?_
        refine x_getR k107_101 (f := 5) rfl (q := 0) (n := 12) (kd := 3) ⟨by decide, rfl⟩ (q2 := 209) (by decide) rfl ?_
        refine x_getI k107_104 (f := 5) rfl (q := 209) (n := 8) (kd := 9) ⟨by decide, rfl⟩ (by decide) rfl ?_
        refine x_top (fun z23 e_z23 => ?_)
        have g_z23 : (-2147483648) ≤ s8 209 5 ∧ s8 209 5 ≤ 2147483647 := hG_s8 209 5
        exact x_iret k107_107 rfl ⟨hG_s8, f_s8, z23, rfl, (by first | exact x_rbe e_z23 g_z23 rfl rfl | exact x_rb g_z23 rfl rfl | exact ⟨by omega, by omega⟩), (Or.inr ⟨by omega, by (try rw [show b = 7 by omega]); rw [e_z23]; exact fa.2.1⟩)⟩
      · rw [c9]
        refine x_B k107_37 rfl (fun _ => rfl) (fun _ => rfl) (fun _ _ => rfl) ?_
        show xe none 107 108 [(0, .ref 0), (1, vi a), (2, vi 8)] [] s8 0 0 _
        refine x_A k107_108 (fun _ => rfl) ?_
        refine x_getR k107_109 (f := 5) rfl (q := 0) (n := 12) (kd := 3) ⟨by decide, rfl⟩ (q2 := 209) (by decide) rfl ?_
        refine x_getI k107_112 (f := 6) rfl (q := 209) (n := 8) (kd := 9) ⟨by decide, rfl⟩ (by decide) rfl ?_
        refine x_top (fun z24 e_z24 => ?_)
        have g_z24 : (-2147483648) ≤ s8 209 6 ∧ s8 209 6 ≤ 2147483647 := hG_s8 209 6
        exact x_iret k107_115 rfl ⟨hG_s8, f_s8, z24, rfl, (by first | exact x_rbe e_z24 g_z24 rfl rfl | exact x_rb g_z24 rfl rfl | exact ⟨by omega, by omega⟩), (Or.inr ⟨by omega, by (try rw [show b = 8 by omega]); rw [e_z24]; exact fa.2.2.1⟩)⟩
      · rw [c9]
        refine x_B k107_37 rfl (fun _ => rfl) (fun _ => rfl) (fun _ _ => rfl) ?_
        show xe none 107 116 [(0, .ref 0), (1, vi a), (2, vi 9)] [] s8 0 0 _
        refine x_A k107_116 (fun _ => rfl) ?_
        refine x_getR k107_117 (f := 5) rfl (q := 0) (n := 12) (kd := 3) ⟨by decide, rfl⟩ (q2 := 209) (by decide) rfl ?_
        refine x_getI k107_120 (f := 7) rfl (q := 209) (n := 8) (kd := 9) ⟨by decide, rfl⟩ (by decide) rfl ?_
        refine x_top (fun z25 e_z25 => ?_)
        have g_z25 : (-2147483648) ≤ s8 209 7 ∧ s8 209 7 ≤ 2147483647 := hG_s8 209 7
        exact x_iret k107_123 rfl ⟨hG_s8, f_s8, z25, rfl, (by first | exact x_rbe e_z25 g_z25 rfl rfl | exact x_rb g_z25 rfl rfl | exact ⟨by omega, by omega⟩), (Or.inr ⟨by omega, by (try rw [show b = 9 by omega]); rw [e_z25]; exact fa.2.2.2.1⟩)⟩
    · rw [e_z4]
      show xe none 107 17 [(0, .ref 0), (1, vi a), (2, vi b)] [vi 0] s0 0 0 _
      refine x_if_ne k107_17 (t := 24) rfl ⟨by decide, by decide⟩ (fun c26 => by exfalso; omega) (fun c26 => ?_)
      refine x_sipush k107_20 (by decide +kernel) ?_
      exact x_iret k107_23 rfl ⟨hG0, f0, (-1002), rfl, ⟨by decide, by decide⟩, (Or.inl ⟨by omega, rfl⟩)⟩
  · rw [e_z1]
    show xe none 107 7 [(0, .ref 0), (1, vi a), (2, vi b)] [vi 0] s0 0 0 _
    refine x_if_eq k107_7 (t := 20) rfl ⟨by decide, by decide⟩ (fun c27 => ?_) (fun c27 => by exfalso; omega)
    refine x_sipush k107_20 (by decide +kernel) ?_
    exact x_iret k107_23 rfl ⟨hG0, f0, (-1002), rfl, ⟨by decide, by decide⟩, (Or.inl ⟨by omega, rfl⟩)⟩
set_option maxHeartbeats 8000000 in
theorem L_E_X11_strikes_256_10 (s0 : xS) (a : Int) (b_a : 0 ≤ a ∧ a ≤ 7) (b : Int) (b_b : (-2147483648) ≤ b ∧ b ≤ 2147483647) (pa : a < s0 256 17) (pR : R1 s0)  : ∀ (n : Nat) (s : xS) (x1 : Int) (x2 : Int) (x3 : Int) (x4 : Int) (hG : GI s) (f : FL [] s0 s) (b_x1 : 0 ≤ x1 ∧ x1 ≤ 7) (b_x2 : (-2147483648) ≤ x2 ∧ x2 ≤ 2147483647) (b_x3 : 0 ≤ x3 ∧ x3 ≤ 1) (b_x4 : 0 ≤ x4 ∧ x4 ≤ 64) (r_3_4 : x3 ≤ x4 + 0) (w_0 : x1 = a ∧ x2 = b ∧ a < s0 256 17) (w_1 : 0 ≤ s0 271 a.toNat ∧ s0 271 a.toNat ≤ x4 ∧ x4 ≤ s0 271 (a + 1).toNat) (w_2 : SkI s0 a b x3 x4)  (hm : (64 - x4) < (n : Int)), xe none 159 10 [(0, .ref 256), (1, vi x1), (2, vi x2), (3, vi x3), (4, vi x4)] [] s 0 0 (fun s' v => GI s' ∧ FL [] s0 s' ∧ ∃ z, v = some (vi z) ∧ (0 ≤ z ∧ z ≤ 1) ∧ ((z = 1 ∧ SkR s0 a b) ∨ (z = 0 ∧ ¬ SkR s0 a b))) := by
  intro n
  induction n with
  | zero => intro s x1 x2 x3 x4 hG f b_x1 b_x2 b_x3 b_x4 r_3_4 w_0 w_1 w_2  hm; exfalso; omega
  | succ n ih =>
    intro s x1 x2 x3 x4 hG f b_x1 b_x2 b_x3 b_x4 r_3_4 w_0 w_1 w_2  hm
    refine x_A k159_10 (fun _ => rfl) ?_
    refine x_A k159_12 (fun _ => rfl) ?_
    refine x_getR k159_13 (f := 19) rfl (q := 256) (n := 62) (kd := 15) ⟨by decide, rfl⟩ (q2 := 271) (by decide) rfl ?_
    refine x_A k159_16 (fun _ => rfl) ?_
    refine x_A k159_17 (fun _ => rfl) ?_
    refine x_iadd k159_18 ?_
    refine x_top (fun z27 e_z27 => ?_)
    refine x_iald k159_19 (q := 271) (n := 9) ⟨by decide, rfl⟩ (by decide) (by first | exact x_rbel e_z27 g_z27 rfl rfl | exact x_rbl g_z27 rfl rfl | exact ⟨by omega, by omega⟩) ?_
    refine x_top (fun z28 e_z28 => ?_)
    have g_z28 : (0 : Int) ≤ s 271 z27.toNat ∧ s 271 z27.toNat ≤ 64 := hG 271 z27.toNat
    have xa : x1 = a := w_0.1
    have e271 : s0 271 (x1 + 1).toNat = z28 := by rw [← f 271 _ (show 5056 ∉ [] from by decide +kernel), show x1 + 1 = z27 by omega]; exact e_z28.symm
    rw [xa] at e271
    refine x_ic_ge k159_20 (t := 61) rfl (by first | exact x_rb b_x4 rfl rfl | exact ⟨by omega, by omega⟩) (by first | exact x_rbe e_z28 g_z28 rfl rfl | exact x_rb g_z28 rfl rfl | exact ⟨by omega, by omega⟩) (fun c29 => ?_) (fun c29 => ?_)
    · skip
      refine x_A k159_61 (fun _ => rfl) ?_
      exact x_zret k159_62 rfl ⟨by omega, by omega⟩ ⟨hG, f, x3, rfl, (by first | exact x_rb b_x3 rfl rfl | exact ⟨by omega, by omega⟩), (SkI.fin w_2 ⟨by omega, by omega⟩ (by omega))⟩
    · skip
      refine x_A k159_23 (fun _ => rfl) ?_
      refine x_if_ne k159_24 (t := 49) rfl (by first | exact x_rb b_x3 rfl rfl | exact ⟨by omega, by omega⟩) (fun c30 => ?_) (fun c30 => ?_)
      · skip
        refine x_A k159_49 (fun _ => rfl) ?_
        refine x_goto k159_50 (t := 54) rfl ?_
        refine x_istore_n k159_54 (ls' := [(3, vi 1), (0, .ref 256), (1, vi x1), (2, vi x2), (4, vi x4)]) (by decide) rfl ?_
        refine x_iinc k159_55 (ls' := [(4, vi (x4 + 1)), (3, vi 1), (0, .ref 256), (1, vi x1), (2, vi x2)]) rfl (by decide) rfl ?_
        refine x_goto k159_58 (t := 10) rfl ?_
        refine x_ls (l := [(0, .ref 256), (1, vi x1), (2, vi x2), (3, vi 1), (4, vi (x4 + 1))]) (show ([0, 1, 2, 3, 4] : List Nat).Nodup from by decide +kernel) ⟨rfl, rfl, rfl, rfl, rfl, trivial⟩ ?_
        exact ih s x1 x2 1 (x4 + 1) hG f (by first | exact x_rb b_x1 rfl rfl | exact ⟨by omega, by omega⟩) (by first | exact x_rb b_x2 rfl rfl | exact ⟨by omega, by omega⟩) ⟨by decide, by decide⟩ ⟨by omega, by omega⟩ (by omega) (by omega) (by omega) (SkI.on w_2 (by omega))  (by omega)
      · skip
        refine x_A k159_27 (fun _ => rfl) ?_
        refine x_getR k159_28 (f := 21) rfl (q := 256) (n := 62) (kd := 15) ⟨by decide, rfl⟩ (q2 := 272) (by decide) rfl ?_
        refine x_A k159_31 (fun _ => rfl) ?_
        refine x_iald k159_33 (q := 272) (n := 72) ⟨by decide, rfl⟩ (by decide) (by first | exact x_rbl b_x4 rfl rfl | exact ⟨by omega, by omega⟩) ?_
        refine x_top (fun z31 e_z31 => ?_)
        have g_z31 : (0 : Int) ≤ s 272 x4.toNat ∧ s 272 x4.toNat ≤ 5 := hG 272 x4.toNat
        refine x_A k159_34 (fun _ => rfl) ?_
        refine x_ic_ne k159_35 (t := 53) rfl (by first | exact x_rbe e_z31 g_z31 rfl rfl | exact x_rb g_z31 rfl rfl | exact ⟨by omega, by omega⟩) ⟨by decide, by decide⟩ (fun c32 => ?_) (fun c32 => ?_)
        · skip
          refine x_A k159_53 (fun _ => rfl) ?_
          refine x_istore_n k159_54 (ls' := [(3, vi 0), (0, .ref 256), (1, vi x1), (2, vi x2), (4, vi x4)]) (by decide) rfl ?_
          refine x_iinc k159_55 (ls' := [(4, vi (x4 + 1)), (3, vi 0), (0, .ref 256), (1, vi x1), (2, vi x2)]) rfl (by decide) rfl ?_
          refine x_goto k159_58 (t := 10) rfl ?_
          refine x_ls (l := [(0, .ref 256), (1, vi x1), (2, vi x2), (3, vi 0), (4, vi (x4 + 1))]) (show ([0, 1, 2, 3, 4] : List Nat).Nodup from by decide +kernel) ⟨rfl, rfl, rfl, rfl, rfl, trivial⟩ ?_
          exact ih s x1 x2 0 (x4 + 1) hG f (by first | exact x_rb b_x1 rfl rfl | exact ⟨by omega, by omega⟩) (by first | exact x_rb b_x2 rfl rfl | exact ⟨by omega, by omega⟩) ⟨by decide, by decide⟩ ⟨by omega, by omega⟩ (by omega) (by omega) (by omega) (SkI.no w_2 (by omega) (fun q => by have q1 := q.1; rw [← f.nil, e_z31.symm] at q1; omega))  (by omega)
        · skip
          refine x_A k159_38 (fun _ => rfl) ?_
          refine x_getR k159_39 (f := 22) rfl (q := 256) (n := 62) (kd := 15) ⟨by decide, rfl⟩ (q2 := 273) (by decide) rfl ?_
          refine x_A k159_42 (fun _ => rfl) ?_
          refine x_iald k159_44 (q := 273) (n := 72) ⟨by decide, rfl⟩ (by decide) (by first | exact x_rbl b_x4 rfl rfl | exact ⟨by omega, by omega⟩) ?_
          refine x_top (fun z33 e_z33 => ?_)
          have g_z33 : (-2147483648) ≤ s 273 x4.toNat ∧ s 273 x4.toNat ≤ 2147483647 := hG 273 x4.toNat
          refine x_A k159_45 (fun _ => rfl) ?_
          refine x_ic_ne k159_46 (t := 53) rfl (by first | exact x_rbe e_z33 g_z33 rfl rfl | exact x_rb g_z33 rfl rfl | exact ⟨by omega, by omega⟩) (by first | exact x_rb b_x2 rfl rfl | exact ⟨by omega, by omega⟩) (fun c34 => ?_) (fun c34 => ?_)
          · skip
            refine x_A k159_53 (fun _ => rfl) ?_
            refine x_istore_n k159_54 (ls' := [(3, vi 0), (0, .ref 256), (1, vi x1), (2, vi x2), (4, vi x4)]) (by decide) rfl ?_
            refine x_iinc k159_55 (ls' := [(4, vi (x4 + 1)), (3, vi 0), (0, .ref 256), (1, vi x1), (2, vi x2)]) rfl (by decide) rfl ?_
            refine x_goto k159_58 (t := 10) rfl ?_
            refine x_ls (l := [(0, .ref 256), (1, vi x1), (2, vi x2), (3, vi 0), (4, vi (x4 + 1))]) (show ([0, 1, 2, 3, 4] : List Nat).Nodup from by decide +kernel) ⟨rfl, rfl, rfl, rfl, rfl, trivial⟩ ?_
            exact ih s x1 x2 0 (x4 + 1) hG f (by first | exact x_rb b_x1 rfl rfl | exact ⟨by omega, by omega⟩) (by first | exact x_rb b_x2 rfl rfl | exact ⟨by omega, by omega⟩) ⟨by decide, by decide⟩ ⟨by omega, by omega⟩ (by omega) (by omega) (by omega) (SkI.no w_2 (by omega) (fun q => by have q2 := q.2; rw [← f.nil, e_z33.symm] at q2; omega))  (by omega)
          · skip
            refine x_A k159_49 (fun _ => rfl) ?_
            refine x_goto k159_50 (t := 54) rfl ?_
            refine x_istore_n k159_54 (ls' := [(3, vi 1), (0, .ref 256), (1, vi x1), (2, vi x2), (4, vi x4)]) (by decide) rfl ?_
            refine x_iinc k159_55 (ls' := [(4, vi (x4 + 1)), (3, vi 1), (0, .ref 256), (1, vi x1), (2, vi x2)]) rfl (by decide) rfl ?_
            refine x_goto k159_58 (t := 10) rfl ?_
            refine x_ls (l := [(0, .ref 256), (1, vi x1), (2, vi x2), (3, vi 1), (4, vi (x4 + 1))]) (show ([0, 1, 2, 3, 4] : List Nat).Nodup from by decide +kernel) ⟨rfl, rfl, rfl, rfl, rfl, trivial⟩ ?_
            exact ih s x1 x2 1 (x4 + 1) hG f (by first | exact x_rb b_x1 rfl rfl | exact ⟨by omega, by omega⟩) (by first | exact x_rb b_x2 rfl rfl | exact ⟨by omega, by omega⟩) ⟨by decide, by decide⟩ ⟨by omega, by omega⟩ (by omega) (by omega) (by omega) (SkI.yes (y := x3) (by omega) (by rw [← f.nil, e_z31.symm]; omega) (by rw [← f.nil, e_z33.symm]; omega))  (by omega)
set_option maxHeartbeats 8000000 in
theorem E_X11_strikes_256 (s0 : xS) (hG0 : GI s0) (a : Int) (b_a : 0 ≤ a ∧ a ≤ 7) (b : Int) (b_b : (-2147483648) ≤ b ∧ b ≤ 2147483647) (pa : a < s0 256 17) (pR : R1 s0) : xe none 159 0 (lv_args 0 [.ref 256, vi a, vi b]) [] s0 0 0 (fun s' v => GI s' ∧ FL [] s0 s' ∧ ∃ z, v = some (vi z) ∧ (0 ≤ z ∧ z ≤ 1) ∧ ((z = 1 ∧ SkR s0 a b) ∨ (z = 0 ∧ ¬ SkR s0 a b))) := by
  have f0 : FL [] s0 s0 := FL.rf
  show xe none 159 0 [(0, .ref 256), (1, vi a), (2, vi b)] [] s0 0 0 _
  have fa := pR.f1 (r := a) ⟨by omega, by omega⟩
  have ga : (0 : Int) ≤ s0 181 a.toNat ∧ s0 181 a.toNat ≤ 9 := hG0 181 a.toNat
  refine x_A k159_0 (fun _ => rfl) ?_
  refine x_istore_n k159_1 (ls' := [(3, vi 0), (0, .ref 256), (1, vi a), (2, vi b)]) (by decide) rfl ?_
  refine x_A k159_2 (fun _ => rfl) ?_
  refine x_getR k159_3 (f := 19) rfl (q := 256) (n := 62) (kd := 15) ⟨by decide, rfl⟩ (q2 := 271) (by decide) rfl ?_
  refine x_A k159_6 (fun _ => rfl) ?_
  refine x_iald k159_7 (q := 271) (n := 9) ⟨by decide, rfl⟩ (by decide) (by first | exact x_rbl b_a rfl rfl | exact ⟨by omega, by omega⟩) ?_
  refine x_top (fun z35 e_z35 => ?_)
  have g_z35 : (0 : Int) ≤ s0 271 a.toNat ∧ s0 271 a.toNat ≤ 64 := hG0 271 a.toNat
  refine x_istore k159_8 (ls' := [(4, vi z35), (3, vi 0), (0, .ref 256), (1, vi a), (2, vi b)]) (by decide) rfl ?_
  refine x_ls (l := [(0, .ref 256), (1, vi a), (2, vi b), (3, vi 0), (4, vi z35)]) (show ([0, 1, 2, 3, 4] : List Nat).Nodup from by decide +kernel) ⟨rfl, rfl, rfl, rfl, rfl, trivial⟩ ?_
  exact L_E_X11_strikes_256_10 s0 a b_a b b_b pa pR  (((64 - z35) + 1 : Int)).toNat s0 a b 0 z35 hG0 f0 (by first | exact x_rb b_a rfl rfl | exact ⟨by omega, by omega⟩) (by first | exact x_rb b_b rfl rfl | exact ⟨by omega, by omega⟩) ⟨by decide, by decide⟩ (by first | exact x_rbe e_z35 g_z35 rfl rfl | exact x_rb g_z35 rfl rfl | exact ⟨by omega, by omega⟩) (by omega) (by omega) (by omega) (SkI_0 (by omega))  (by omega)
set_option maxHeartbeats 8000000 in
theorem L_E_X11_findRules_256_146 (s0 : xS) (hJ0 : J s0) (a : Int) (b_a : 0 ≤ a ∧ a ≤ 9) (pR : R1 s0) (n_123 : Nat) (ih_123 : ∀ (s : xS) (x1 : Int) (x2 : Int) (x1000 : Int) (hG : GI s) (f : FL [5312, 5376, 4123] s0 s) (b_x1 : 0 ≤ x1 ∧ x1 ≤ 9) (b_x2 : 0 ≤ x2 ∧ x2 ≤ 10) (b_x1000 : 0 ≤ x1000 ∧ x1000 ≤ 8) (w_0 : x1 = a) (w_1 : x1000 = s0 256 17 ∧ x1000 ≤ 8) (w_2 : FrI s s0 a (-1)) (w_3 : FoQ s (foFR s0 a x2.toNat)) (w_4 : 0 ≤ x2 ∧ x2 ≤ a + 1) (e_x1000 : x1000 = s 256 17) (hm : (10 - x2) < (n_123 : Int)), xe none 160 123 [(0, .ref 256), (1, vi x1), (2, vi x2)] [] s 0 0 (fun s' v => GI s' ∧ FL [5312, 5376, 4123] s0 s' ∧ v = none ∧ (FrZ s' s0 a))) (n_130 : Nat) (ih_130 : ∀ (s : xS) (x1 : Int) (x2 : Int) (x3 : Int) (x1000 : Int) (hG : GI s) (f : FL [5312, 5376, 4123] s0 s) (b_x1 : 0 ≤ x1 ∧ x1 ≤ 9) (b_x2 : 0 ≤ x2 ∧ x2 ≤ 9) (b_x3 : 0 ≤ x3 ∧ x3 ≤ 8) (b_x1000 : 0 ≤ x1000 ∧ x1000 ≤ 8) (r_2_1 : x2 ≤ x1 + 0) (w_0 : x1 = a) (w_1 : x1000 = s0 256 17 ∧ x1000 ≤ 8) (w_2 : FrI s s0 a (-1)) (w_3 : FoQ s (foGR s0 a x2 x3.toNat)) (w_4 : 0 ≤ x2 ∧ x2 ≤ a) (w_5 : 0 ≤ x3 ∧ x3 ≤ x1000) (e_x1000 : x1000 = s 256 17) (k_123 : (10 - x2) < (n_123 : Int) + 1) (hm : (8 - x3) < (n_130 : Int)), xe none 160 130 [(0, .ref 256), (1, vi x1), (2, vi x2), (3, vi x3)] [] s 0 0 (fun s' v => GI s' ∧ FL [5312, 5376, 4123] s0 s' ∧ v = none ∧ (FrZ s' s0 a))) : ∀ (n : Nat) (s : xS) (x1 : Int) (x2 : Int) (x3 : Int) (x4 : Int) (x1000 : Int) (hG : GI s) (f : FL [5312, 5376, 4123] s0 s) (b_x1 : 0 ≤ x1 ∧ x1 ≤ 9) (b_x2 : 0 ≤ x2 ∧ x2 ≤ 9) (b_x3 : 0 ≤ x3 ∧ x3 ≤ 7) (b_x4 : 0 ≤ x4 ∧ x4 ≤ 64) (b_x1000 : 1 ≤ x1000 ∧ x1000 ≤ 8) (r_2_1 : x2 ≤ x1 + 0) (r_3_1000 : x3 ≤ x1000 + 0) (w_0 : x1 = a) (w_1 : x1000 = s0 256 17 ∧ x1000 ≤ 8) (w_2 : FrI s s0 a (-1)) (w_3 : FrH s s0 a x2 x3 x4) (w_4 : 0 ≤ x2 ∧ x2 ≤ a) (w_5 : 0 ≤ x3 ∧ x3 < x1000) (w_6 : 0 ≤ x4 ∧ x4 ≤ s0 271 (x3 + 1).toNat) (e_x1000 : x1000 = s 256 17) (k_123 : (10 - x2) < (n_123 : Int) + 1) (k_130 : (8 - x3) < (n_130 : Int) + 1) (hm : (64 - x4) < (n : Int)), xe none 160 146 [(0, .ref 256), (1, vi x1), (2, vi x2), (3, vi x3), (4, vi x4)] [] s 0 0 (fun s' v => GI s' ∧ FL [5312, 5376, 4123] s0 s' ∧ v = none ∧ (FrZ s' s0 a)) := by
  intro n
  induction n with
  | zero => intro s x1 x2 x3 x4 x1000 hG f b_x1 b_x2 b_x3 b_x4 b_x1000 r_2_1 r_3_1000 w_0 w_1 w_2 w_3 w_4 w_5 w_6 e_x1000 k_123 k_130 hm; exfalso; omega
  | succ n ih =>
    intro s x1 x2 x3 x4 x1000 hG f b_x1 b_x2 b_x3 b_x4 b_x1000 r_2_1 r_3_1000 w_0 w_1 w_2 w_3 w_4 w_5 w_6 e_x1000 k_123 k_130 hm
    refine x_A k160_146 (fun _ => rfl) ?_
    refine x_A k160_148 (fun _ => rfl) ?_
    refine x_getR k160_149 (f := 19) rfl (q := 256) (n := 62) (kd := 15) ⟨by decide, rfl⟩ (q2 := 271) (by decide) rfl ?_
    refine x_A k160_152 (fun _ => rfl) ?_
    refine x_A k160_153 (fun _ => rfl) ?_
    refine x_iadd k160_154 ?_
    refine x_top (fun z1289 e_z1289 => ?_)
    refine x_iald k160_155 (q := 271) (n := 9) ⟨by decide, rfl⟩ (by decide) (by first | exact x_rbel e_z1289 g_z1289 rfl rfl | exact x_rbl g_z1289 rfl rfl | exact ⟨by omega, by omega⟩) ?_
    refine x_top (fun z1290 e_z1290 => ?_)
    have g_z1290 : (0 : Int) ≤ s 271 z1289.toNat ∧ s 271 z1289.toNat ≤ 64 := hG 271 z1289.toNat
    have e271 : s0 271 (x3 + 1).toNat = z1290 := by rw [← f 271 _ (show 5056 ∉ [5312, 5376, 4123] from by decide +kernel), show x3 + 1 = z1289 by omega]; exact e_z1290.symm
    refine x_ic_ge k160_156 (t := 242) rfl (by first | exact x_rb b_x4 rfl rfl | exact ⟨by omega, by omega⟩) (by first | exact x_rbe e_z1290 g_z1290 rfl rfl | exact x_rb g_z1290 rfl rfl | exact ⟨by omega, by omega⟩) (fun c1291 => ?_) (fun c1291 => ?_)
    · skip
      refine x_iinc k160_242 (ls' := [(3, vi (x3 + 1)), (0, .ref 256), (1, vi x1), (2, vi x2), (4, vi x4)]) rfl (by decide) rfl ?_
      refine x_goto k160_245 (t := 130) rfl ?_
      refine x_ls (l := [(0, .ref 256), (1, vi x1), (2, vi x2), (3, vi (x3 + 1))]) (show ([0, 1, 2, 3] : List Nat).Nodup from by decide +kernel) ⟨rfl, rfl, rfl, rfl, trivial⟩ ?_
      exact ih_130 s x1 x2 (x3 + 1) x1000 hG f (by first | exact x_rb b_x1 rfl rfl | exact ⟨by omega, by omega⟩) (by first | exact x_rb b_x2 rfl rfl | exact ⟨by omega, by omega⟩) ⟨by omega, by omega⟩ (by first | exact x_rb b_x1000 rfl rfl | exact ⟨by omega, by omega⟩) (by omega) (by omega) (by omega) w_2 (FrH.out w_3 ⟨by omega, by omega⟩ (by omega) (Or.inl (by omega))) (by omega) (by omega) (e_x1000.symm).symm (by omega) (by omega)
    · skip
      refine x_A k160_159 (fun _ => rfl) ?_
      refine x_getR k160_160 (f := 24) rfl (q := 256) (n := 62) (kd := 15) ⟨by decide, rfl⟩ (q2 := 275) (by decide) rfl ?_
      refine x_A k160_163 (fun _ => rfl) ?_
      refine x_bald k160_164 (q := 275) (n := 8) ⟨by decide, rfl⟩ (by decide) (by first | exact x_rbl b_x3 rfl rfl | exact ⟨by omega, by omega⟩) ?_
      refine x_top (fun z1292 e_z1292 => ?_)
      have g_z1292 : (0 : Int) ≤ s 275 x3.toNat ∧ s 275 x3.toNat ≤ 1 := hG 275 x3.toNat
      refine x_if_eq k160_165 (t := 242) rfl (by first | exact x_rbe e_z1292 g_z1292 rfl rfl | exact x_rb g_z1292 rfl rfl | exact ⟨by omega, by omega⟩) (fun c1293 => ?_) (fun c1293 => ?_)
      · skip
        refine x_iinc k160_242 (ls' := [(3, vi (x3 + 1)), (0, .ref 256), (1, vi x1), (2, vi x2), (4, vi x4)]) rfl (by decide) rfl ?_
        refine x_goto k160_245 (t := 130) rfl ?_
        refine x_ls (l := [(0, .ref 256), (1, vi x1), (2, vi x2), (3, vi (x3 + 1))]) (show ([0, 1, 2, 3] : List Nat).Nodup from by decide +kernel) ⟨rfl, rfl, rfl, rfl, trivial⟩ ?_
        exact ih_130 s x1 x2 (x3 + 1) x1000 hG f (by first | exact x_rb b_x1 rfl rfl | exact ⟨by omega, by omega⟩) (by first | exact x_rb b_x2 rfl rfl | exact ⟨by omega, by omega⟩) ⟨by omega, by omega⟩ (by first | exact x_rb b_x1000 rfl rfl | exact ⟨by omega, by omega⟩) (by omega) (by omega) (by omega) w_2 (FrH.out w_3 ⟨by omega, by omega⟩ (by omega) (Or.inr (fun q => by have q2 := (w_2 x3 (by omega) (by omega) (by omega)).mpr q.2; omega))) (by omega) (by omega) (e_x1000.symm).symm (by omega) (by omega)
      · skip
        refine x_A k160_168 (fun _ => rfl) ?_
        refine x_getR k160_169 (f := 18) rfl (q := 256) (n := 62) (kd := 15) ⟨by decide, rfl⟩ (q2 := 270) (by decide) rfl ?_
        refine x_A k160_172 (fun _ => rfl) ?_
        refine x_iald k160_173 (q := 270) (n := 8) ⟨by decide, rfl⟩ (by decide) (by first | exact x_rbl b_x3 rfl rfl | exact ⟨by omega, by omega⟩) ?_
        refine x_top (fun z1294 e_z1294 => ?_)
        have g_z1294 : (0 : Int) ≤ s 270 x3.toNat ∧ s 270 x3.toNat ≤ 9 := hG 270 x3.toNat
        refine x_A k160_174 (fun _ => rfl) ?_
        refine x_ic_ne k160_175 (t := 242) rfl (by first | exact x_rbe e_z1294 g_z1294 rfl rfl | exact x_rb g_z1294 rfl rfl | exact ⟨by omega, by omega⟩) (by first | exact x_rb b_x2 rfl rfl | exact ⟨by omega, by omega⟩) (fun c1295 => ?_) (fun c1295 => ?_)
        · skip
          refine x_iinc k160_242 (ls' := [(3, vi (x3 + 1)), (0, .ref 256), (1, vi x1), (2, vi x2), (4, vi x4)]) rfl (by decide) rfl ?_
          refine x_goto k160_245 (t := 130) rfl ?_
          refine x_ls (l := [(0, .ref 256), (1, vi x1), (2, vi x2), (3, vi (x3 + 1))]) (show ([0, 1, 2, 3] : List Nat).Nodup from by decide +kernel) ⟨rfl, rfl, rfl, rfl, trivial⟩ ?_
          exact ih_130 s x1 x2 (x3 + 1) x1000 hG f (by first | exact x_rb b_x1 rfl rfl | exact ⟨by omega, by omega⟩) (by first | exact x_rb b_x2 rfl rfl | exact ⟨by omega, by omega⟩) ⟨by omega, by omega⟩ (by first | exact x_rb b_x1000 rfl rfl | exact ⟨by omega, by omega⟩) (by omega) (by omega) (by omega) w_2 (FrH.out w_3 ⟨by omega, by omega⟩ (by omega) (Or.inr (fun q => by have q1 := q.1; unfold edR at q1; rw [if_pos ⟨by omega, by omega⟩, ← f 270 x3.toNat (show 4992 ∉ [5312, 5376, 4123] from by decide +kernel), e_z1294.symm] at q1; omega))) (by omega) (by omega) (e_x1000.symm).symm (by omega) (by omega)
        · skip
          have hq : edR s0 x3 = x2 ∧ CnR s0 a x3 := ⟨by unfold edR; rw [if_pos ⟨by omega, by omega⟩, ← f 270 x3.toNat (show 4992 ∉ [5312, 5376, 4123] from by decide +kernel), e_z1294.symm]; omega, (w_2 x3 (by omega) (by omega) (by omega)).mp (by omega)⟩
          have hA := hJ0.sn x4 (x3 + 1) ⟨by omega, by omega⟩ (by omega) (by omega)
          obtain ⟨z1296, e_z1296⟩ : ∃ z, z = s 256 26 := ⟨_, rfl⟩
          have g_z1296 : (-2147483648) ≤ s 256 26 ∧ s 256 26 ≤ 2147483647 := hG 256 26
          refine x_A k160_178 (fun _ => rfl) ?_
          refine x_getR k160_179 (f := 21) rfl (q := 256) (n := 62) (kd := 15) ⟨by decide, rfl⟩ (q2 := 272) (by decide) rfl ?_
          refine x_A k160_182 (fun _ => rfl) ?_
          refine x_iald k160_184 (q := 272) (n := 72) ⟨by decide, rfl⟩ (by decide) (by first | exact x_rbl b_x4 rfl rfl | exact ⟨by omega, by omega⟩) ?_
          refine x_top (fun z1297 e_z1297 => ?_)
          have g_z1297 : (0 : Int) ≤ s 272 x4.toNat ∧ s 272 x4.toNat ≤ 5 := hG 272 x4.toNat
          have k272 : s0 272 x4.toNat = z1297 := by rw [← f 272 x4.toNat (show 5120 ∉ [5312, 5376, 4123] from by decide +kernel)]; exact e_z1297.symm
          refine x_if_ne k160_185 (t := 207) rfl (by first | exact x_rbe e_z1297 g_z1297 rfl rfl | exact x_rb g_z1297 rfl rfl | exact ⟨by omega, by omega⟩) (fun c1298 => ?_) (fun c1298 => ?_)
          · skip
            refine x_A k160_207 (fun _ => rfl) ?_
            refine x_A k160_208 (fun _ => rfl) ?_
            refine x_getR k160_209 (f := 21) rfl (q := 256) (n := 62) (kd := 15) ⟨by decide, rfl⟩ (q2 := 272) (by decide) rfl ?_
            refine x_A k160_212 (fun _ => rfl) ?_
            refine x_iald k160_214 (q := 272) (n := 72) ⟨by decide, rfl⟩ (by decide) (by first | exact x_rbl b_x4 rfl rfl | exact ⟨by omega, by omega⟩) ?_
            refine x_rw (e_z1297.symm) ?_
            refine x_A k160_215 (fun _ => rfl) ?_
            refine x_ic_ne k160_216 (t := 229) rfl (by first | exact x_rbe e_z1297 g_z1297 rfl rfl | exact x_rb g_z1297 rfl rfl | exact ⟨by omega, by omega⟩) ⟨by decide, by decide⟩ (fun c1299 => ?_) (fun c1299 => ?_)
            · skip
              refine x_A k160_229 (fun _ => rfl) ?_
              refine x_getI k160_230 (f := 26) rfl (q := 256) (n := 62) (kd := 15) ⟨by decide, rfl⟩ (by decide) rfl ?_
              refine x_rw (e_z1296.symm) ?_
              refine x_putI k160_233 (f := 26) rfl (q := 256) (n := 62) (kd := 15) ⟨by decide, rfl⟩ rfl rfl rfl ?_
              refine x_nh (fun s1300 e_s1300 => ?_)
              have hG_s1300 : GI s1300 := by rw [e_s1300]; exact hG.up (show (-2147483648) ≤ z1296 ∧ z1296 ≤ 2147483647 from (by first | exact x_rbe e_z1296 g_z1296 rfl rfl | exact x_rb g_z1296 rfl rfl | exact ⟨by omega, by omega⟩))
              have f_s1300 : FL [5312, 5376, 4123] s0 s1300 := by rw [e_s1300]; exact f.up (show 4123 ∈ [5312, 5376, 4123] from by decide +kernel)
              have q1301 : s1300 256 17 = x1000 := by rw [e_s1300, x_up_i (by decide)]; exact e_x1000.symm
              have q1302 : s1300 256 26 = z1296 := by rw [e_s1300]; exact x_up_same
              have q1303 : s1300 271 z1289.toNat = z1290 := by rw [e_s1300, x_up_q (by first | decide | omega)]; exact e_z1290.symm
              have q1304 : s1300 275 x3.toNat = z1292 := by rw [e_s1300, x_up_q (by first | decide | omega)]; exact e_z1292.symm
              have q1305 : s1300 270 x3.toNat = z1294 := by rw [e_s1300, x_up_q (by first | decide | omega)]; exact e_z1294.symm
              have q1306 : s1300 272 x4.toNat = z1297 := by rw [e_s1300, x_up_q (by first | decide | omega)]; exact e_z1297.symm
              refine x_iinc k160_236 (ls' := [(4, vi (x4 + 1)), (0, .ref 256), (1, vi x1), (2, vi x2), (3, vi x3)]) rfl (by decide) rfl ?_
              refine x_goto k160_239 (t := 146) rfl ?_
              refine x_ls (l := [(0, .ref 256), (1, vi x1), (2, vi x2), (3, vi x3), (4, vi (x4 + 1))]) (show ([0, 1, 2, 3, 4] : List Nat).Nodup from by decide +kernel) ⟨rfl, rfl, rfl, rfl, rfl, trivial⟩ ?_
              exact ih s1300 x1 x2 x3 (x4 + 1) x1000 hG_s1300 f_s1300 (by first | exact x_rb b_x1 rfl rfl | exact ⟨by omega, by omega⟩) (by first | exact x_rb b_x2 rfl rfl | exact ⟨by omega, by omega⟩) (by first | exact x_rb b_x3 rfl rfl | exact ⟨by omega, by omega⟩) ⟨by omega, by omega⟩ (by first | exact x_rb b_x1000 rfl rfl | exact ⟨by omega, by omega⟩) (by omega) (by omega) (by omega) (by omega) (FrI.cg w_2 (funext fun i => by rw [e_s1300, x_up_q (by decide)])) (FrH.step w_3 ⟨by omega, by omega⟩ (by omega) hq hA (fun k k0 k5 => by rw [e_s1300, x_up_q (by decide), if_neg (fun q => by have := q.1; omega)]) (by rw [if_neg (by omega)]; omega)) (by omega) (by omega) (by omega) (q1301).symm (by omega) (by omega) (by omega)
            · skip
              refine x_A k160_219 (fun _ => rfl) ?_
              refine x_getR k160_220 (f := 22) rfl (q := 256) (n := 62) (kd := 15) ⟨by decide, rfl⟩ (q2 := 273) (by decide) rfl ?_
              refine x_A k160_223 (fun _ => rfl) ?_
              refine x_iald k160_225 (q := 273) (n := 72) ⟨by decide, rfl⟩ (by decide) (by first | exact x_rbl b_x4 rfl rfl | exact ⟨by omega, by omega⟩) ?_
              refine x_top (fun z1307 e_z1307 => ?_)
              have g_z1307 : (-2147483648) ≤ s 273 x4.toNat ∧ s 273 x4.toNat ≤ 2147483647 := hG 273 x4.toNat
              have k273 : s0 273 x4.toNat = z1307 := by rw [← f 273 x4.toNat (show 5184 ∉ [5312, 5376, 4123] from by decide +kernel)]; exact e_z1307.symm
              refine x_goto k160_226 (t := 233) rfl ?_
              refine x_putI k160_233 (f := 26) rfl (q := 256) (n := 62) (kd := 15) ⟨by decide, rfl⟩ rfl rfl rfl ?_
              refine x_nh (fun s1308 e_s1308 => ?_)
              have hG_s1308 : GI s1308 := by rw [e_s1308]; exact hG.up (show (-2147483648) ≤ z1307 ∧ z1307 ≤ 2147483647 from (by first | exact x_rbe e_z1307 g_z1307 rfl rfl | exact x_rb g_z1307 rfl rfl | exact ⟨by omega, by omega⟩))
              have f_s1308 : FL [5312, 5376, 4123] s0 s1308 := by rw [e_s1308]; exact f.up (show 4123 ∈ [5312, 5376, 4123] from by decide +kernel)
              have q1309 : s1308 256 17 = x1000 := by rw [e_s1308, x_up_i (by decide)]; exact e_x1000.symm
              have q1310 : s1308 256 26 = z1307 := by rw [e_s1308]; exact x_up_same
              have q1311 : s1308 271 z1289.toNat = z1290 := by rw [e_s1308, x_up_q (by first | decide | omega)]; exact e_z1290.symm
              have q1312 : s1308 275 x3.toNat = z1292 := by rw [e_s1308, x_up_q (by first | decide | omega)]; exact e_z1292.symm
              have q1313 : s1308 270 x3.toNat = z1294 := by rw [e_s1308, x_up_q (by first | decide | omega)]; exact e_z1294.symm
              have q1314 : s1308 272 x4.toNat = z1297 := by rw [e_s1308, x_up_q (by first | decide | omega)]; exact e_z1297.symm
              have q1315 : s1308 273 x4.toNat = z1307 := by rw [e_s1308, x_up_q (by first | decide | omega)]; exact e_z1307.symm
              refine x_iinc k160_236 (ls' := [(4, vi (x4 + 1)), (0, .ref 256), (1, vi x1), (2, vi x2), (3, vi x3)]) rfl (by decide) rfl ?_
              refine x_goto k160_239 (t := 146) rfl ?_
              refine x_ls (l := [(0, .ref 256), (1, vi x1), (2, vi x2), (3, vi x3), (4, vi (x4 + 1))]) (show ([0, 1, 2, 3, 4] : List Nat).Nodup from by decide +kernel) ⟨rfl, rfl, rfl, rfl, rfl, trivial⟩ ?_
              exact ih s1308 x1 x2 x3 (x4 + 1) x1000 hG_s1308 f_s1308 (by first | exact x_rb b_x1 rfl rfl | exact ⟨by omega, by omega⟩) (by first | exact x_rb b_x2 rfl rfl | exact ⟨by omega, by omega⟩) (by first | exact x_rb b_x3 rfl rfl | exact ⟨by omega, by omega⟩) ⟨by omega, by omega⟩ (by first | exact x_rb b_x1000 rfl rfl | exact ⟨by omega, by omega⟩) (by omega) (by omega) (by omega) (by omega) (FrI.cg w_2 (funext fun i => by rw [e_s1308, x_up_q (by decide)])) (FrH.step w_3 ⟨by omega, by omega⟩ (by omega) hq hA (fun k k0 k5 => by rw [e_s1308, x_up_q (by decide), if_neg (fun q => by have := q.1; omega)]) (by rw [if_pos (by omega)]; omega)) (by omega) (by omega) (by omega) (q1309).symm (by omega) (by omega) (by omega)
          · skip
            refine x_A k160_188 (fun _ => rfl) ?_
            refine x_getR k160_189 (f := 25) rfl (q := 256) (n := 62) (kd := 15) ⟨by decide, rfl⟩ (q2 := 276) (by decide) rfl ?_
            refine x_A k160_192 (fun _ => rfl) ?_
            refine x_getR k160_193 (f := 22) rfl (q := 256) (n := 62) (kd := 15) ⟨by decide, rfl⟩ (q2 := 273) (by decide) rfl ?_
            refine x_A k160_196 (fun _ => rfl) ?_
            refine x_iald k160_198 (q := 273) (n := 72) ⟨by decide, rfl⟩ (by decide) (by first | exact x_rbl b_x4 rfl rfl | exact ⟨by omega, by omega⟩) ?_
            refine x_top (fun z1316 e_z1316 => ?_)
            have g_z1316 : (-2147483648) ≤ s 273 x4.toNat ∧ s 273 x4.toNat ≤ 2147483647 := hG 273 x4.toNat
            have k273 : s0 273 x4.toNat = z1316 := by rw [← f 273 x4.toNat (show 5184 ∉ [5312, 5376, 4123] from by decide +kernel)]; exact e_z1316.symm
            have hA0 := hA (by omega)
            refine x_A k160_199 (fun _ => rfl) ?_
            refine x_getR k160_200 (f := 23) rfl (q := 256) (n := 62) (kd := 15) ⟨by decide, rfl⟩ (q2 := 274) (by decide) rfl ?_
            refine x_A k160_203 (fun _ => rfl) ?_
            refine x_iald k160_205 (q := 274) (n := 72) ⟨by decide, rfl⟩ (by decide) (by first | exact x_rbl b_x4 rfl rfl | exact ⟨by omega, by omega⟩) ?_
            refine x_top (fun z1317 e_z1317 => ?_)
            have g_z1317 : (-2147483648) ≤ s 274 x4.toNat ∧ s 274 x4.toNat ≤ 2147483647 := hG 274 x4.toNat
            have k274 : s0 274 x4.toNat = z1317 := by rw [← f 274 x4.toNat (show 5248 ∉ [5312, 5376, 4123] from by decide +kernel)]; exact e_z1317.symm
            refine x_iast k160_206 (q := 276) (n := 6) ⟨by decide, rfl⟩ (by decide) (by first | exact x_rbel e_z1316 g_z1316 rfl rfl | exact x_rbl g_z1316 rfl rfl | exact ⟨by omega, by omega⟩) ?_
            refine x_nh (fun s1318 e_s1318 => ?_)
            have hG_s1318 : GI s1318 := by rw [e_s1318]; exact hG.up (show (-2147483648) ≤ z1317 ∧ z1317 ≤ 2147483647 from (by first | exact x_rbe e_z1317 g_z1317 rfl rfl | exact x_rb g_z1317 rfl rfl | exact ⟨by omega, by omega⟩))
            have f_s1318 : FL [5312, 5376, 4123] s0 s1318 := by rw [e_s1318]; exact f.up (show 5376 ∈ [5312, 5376, 4123] from by decide +kernel)
            have q1319 : s1318 256 17 = x1000 := by rw [e_s1318, x_up_q (by decide)]; exact e_x1000.symm
            have q1320 : s1318 256 26 = z1296 := by rw [e_s1318, x_up_q (by decide)]; exact e_z1296.symm
            have q1321 : s1318 271 z1289.toNat = z1290 := by rw [e_s1318, x_up_q (by first | decide | omega)]; exact e_z1290.symm
            have q1322 : s1318 275 x3.toNat = z1292 := by rw [e_s1318, x_up_q (by first | decide | omega)]; exact e_z1292.symm
            have q1323 : s1318 270 x3.toNat = z1294 := by rw [e_s1318, x_up_q (by first | decide | omega)]; exact e_z1294.symm
            have q1324 : s1318 272 x4.toNat = z1297 := by rw [e_s1318, x_up_q (by first | decide | omega)]; exact e_z1297.symm
            have q1325 : s1318 273 x4.toNat = z1316 := by rw [e_s1318, x_up_q (by first | decide | omega)]; exact e_z1316.symm
            have q1326 : s1318 274 x4.toNat = z1317 := by rw [e_s1318, x_up_q (by first | decide | omega)]; exact e_z1317.symm
            have q1327 : s1318 276 z1316.toNat = z1317 := by rw [e_s1318]; exact x_up_same
            refine x_A k160_207 (fun _ => rfl) ?_
            refine x_A k160_208 (fun _ => rfl) ?_
            refine x_getR k160_209 (f := 21) rfl (q := 256) (n := 62) (kd := 15) ⟨by decide, rfl⟩ (q2 := 272) (by decide) rfl ?_
            refine x_A k160_212 (fun _ => rfl) ?_
            refine x_iald k160_214 (q := 272) (n := 72) ⟨by decide, rfl⟩ (by decide) (by first | exact x_rbl b_x4 rfl rfl | exact ⟨by omega, by omega⟩) ?_
            refine x_rw (q1324) ?_
            refine x_A k160_215 (fun _ => rfl) ?_
            refine x_ic_ne k160_216 (t := 229) rfl (by first | exact x_rbe e_z1297 g_z1297 rfl rfl | exact x_rb g_z1297 rfl rfl | exact ⟨by omega, by omega⟩) ⟨by decide, by decide⟩ (fun c1328 => ?_) (fun c1328 => by exfalso; omega)
            refine x_A k160_229 (fun _ => rfl) ?_
            refine x_getI k160_230 (f := 26) rfl (q := 256) (n := 62) (kd := 15) ⟨by decide, rfl⟩ (by decide) rfl ?_
            refine x_rw (q1320) ?_
            refine x_putI k160_233 (f := 26) rfl (q := 256) (n := 62) (kd := 15) ⟨by decide, rfl⟩ rfl rfl rfl ?_
            refine x_nh (fun s1329 e_s1329 => ?_)
            have hG_s1329 : GI s1329 := by rw [e_s1329]; exact hG_s1318.up (show (-2147483648) ≤ z1296 ∧ z1296 ≤ 2147483647 from (by first | exact x_rbe e_z1296 g_z1296 rfl rfl | exact x_rb g_z1296 rfl rfl | exact ⟨by omega, by omega⟩))
            have f_s1329 : FL [5312, 5376, 4123] s0 s1329 := by rw [e_s1329]; exact f_s1318.up (show 4123 ∈ [5312, 5376, 4123] from by decide +kernel)
            have q1330 : s1329 256 17 = x1000 := by rw [e_s1329, x_up_i (by decide)]; exact q1319
            have q1331 : s1329 256 26 = z1296 := by rw [e_s1329]; exact x_up_same
            have q1332 : s1329 271 z1289.toNat = z1290 := by rw [e_s1329, x_up_q (by first | decide | omega)]; exact q1321
            have q1333 : s1329 275 x3.toNat = z1292 := by rw [e_s1329, x_up_q (by first | decide | omega)]; exact q1322
            have q1334 : s1329 270 x3.toNat = z1294 := by rw [e_s1329, x_up_q (by first | decide | omega)]; exact q1323
            have q1335 : s1329 272 x4.toNat = z1297 := by rw [e_s1329, x_up_q (by first | decide | omega)]; exact q1324
            have q1336 : s1329 273 x4.toNat = z1316 := by rw [e_s1329, x_up_q (by first | decide | omega)]; exact q1325
            have q1337 : s1329 274 x4.toNat = z1317 := by rw [e_s1329, x_up_q (by first | decide | omega)]; exact q1326
            have q1338 : s1329 276 z1316.toNat = z1317 := by rw [e_s1329, x_up_q (by first | decide | omega)]; exact q1327
            refine x_iinc k160_236 (ls' := [(4, vi (x4 + 1)), (0, .ref 256), (1, vi x1), (2, vi x2), (3, vi x3)]) rfl (by decide) rfl ?_
            refine x_goto k160_239 (t := 146) rfl ?_
            refine x_ls (l := [(0, .ref 256), (1, vi x1), (2, vi x2), (3, vi x3), (4, vi (x4 + 1))]) (show ([0, 1, 2, 3, 4] : List Nat).Nodup from by decide +kernel) ⟨rfl, rfl, rfl, rfl, rfl, trivial⟩ ?_
            exact ih s1329 x1 x2 x3 (x4 + 1) x1000 hG_s1329 f_s1329 (by first | exact x_rb b_x1 rfl rfl | exact ⟨by omega, by omega⟩) (by first | exact x_rb b_x2 rfl rfl | exact ⟨by omega, by omega⟩) (by first | exact x_rb b_x3 rfl rfl | exact ⟨by omega, by omega⟩) ⟨by omega, by omega⟩ (by first | exact x_rb b_x1000 rfl rfl | exact ⟨by omega, by omega⟩) (by omega) (by omega) (by omega) (by omega) (FrI.cg w_2 (funext fun i => by rw [e_s1329, x_up_q (by decide), e_s1318, x_up_q (by decide)])) (FrH.step w_3 ⟨by omega, by omega⟩ (by omega) hq hA (fun k k0 k5 => by rw [e_s1329, x_up_q (by decide), e_s1318, x_up_at]; exact sn_if (by omega) (by omega) (by omega) (by omega) k0) (by rw [if_neg (by omega)]; omega)) (by omega) (by omega) (by omega) (q1330).symm (by omega) (by omega) (by omega)
set_option maxHeartbeats 8000000 in
theorem L_E_X11_findRules_256_130 (s0 : xS) (hJ0 : J s0) (a : Int) (b_a : 0 ≤ a ∧ a ≤ 9) (pR : R1 s0) (n_123 : Nat) (ih_123 : ∀ (s : xS) (x1 : Int) (x2 : Int) (x1000 : Int) (hG : GI s) (f : FL [5312, 5376, 4123] s0 s) (b_x1 : 0 ≤ x1 ∧ x1 ≤ 9) (b_x2 : 0 ≤ x2 ∧ x2 ≤ 10) (b_x1000 : 0 ≤ x1000 ∧ x1000 ≤ 8) (w_0 : x1 = a) (w_1 : x1000 = s0 256 17 ∧ x1000 ≤ 8) (w_2 : FrI s s0 a (-1)) (w_3 : FoQ s (foFR s0 a x2.toNat)) (w_4 : 0 ≤ x2 ∧ x2 ≤ a + 1) (e_x1000 : x1000 = s 256 17) (hm : (10 - x2) < (n_123 : Int)), xe none 160 123 [(0, .ref 256), (1, vi x1), (2, vi x2)] [] s 0 0 (fun s' v => GI s' ∧ FL [5312, 5376, 4123] s0 s' ∧ v = none ∧ (FrZ s' s0 a))) : ∀ (n : Nat) (s : xS) (x1 : Int) (x2 : Int) (x3 : Int) (x1000 : Int) (hG : GI s) (f : FL [5312, 5376, 4123] s0 s) (b_x1 : 0 ≤ x1 ∧ x1 ≤ 9) (b_x2 : 0 ≤ x2 ∧ x2 ≤ 9) (b_x3 : 0 ≤ x3 ∧ x3 ≤ 8) (b_x1000 : 0 ≤ x1000 ∧ x1000 ≤ 8) (r_2_1 : x2 ≤ x1 + 0) (w_0 : x1 = a) (w_1 : x1000 = s0 256 17 ∧ x1000 ≤ 8) (w_2 : FrI s s0 a (-1)) (w_3 : FoQ s (foGR s0 a x2 x3.toNat)) (w_4 : 0 ≤ x2 ∧ x2 ≤ a) (w_5 : 0 ≤ x3 ∧ x3 ≤ x1000) (e_x1000 : x1000 = s 256 17) (k_123 : (10 - x2) < (n_123 : Int) + 1) (hm : (8 - x3) < (n : Int)), xe none 160 130 [(0, .ref 256), (1, vi x1), (2, vi x2), (3, vi x3)] [] s 0 0 (fun s' v => GI s' ∧ FL [5312, 5376, 4123] s0 s' ∧ v = none ∧ (FrZ s' s0 a)) := by
  intro n
  induction n with
  | zero => intro s x1 x2 x3 x1000 hG f b_x1 b_x2 b_x3 b_x1000 r_2_1 w_0 w_1 w_2 w_3 w_4 w_5 e_x1000 k_123 hm; exfalso; omega
  | succ n ih =>
    intro s x1 x2 x3 x1000 hG f b_x1 b_x2 b_x3 b_x1000 r_2_1 w_0 w_1 w_2 w_3 w_4 w_5 e_x1000 k_123 hm
    refine x_A k160_130 (fun _ => rfl) ?_
    refine x_A k160_131 (fun _ => rfl) ?_
    refine x_getI k160_132 (f := 17) rfl (q := 256) (n := 62) (kd := 15) ⟨by decide, rfl⟩ (by decide) rfl ?_
    refine x_rw (e_x1000.symm) ?_
    refine x_ic_ge k160_135 (t := 248) rfl (by first | exact x_rb b_x3 rfl rfl | exact ⟨by omega, by omega⟩) (by first | exact x_rb b_x1000 rfl rfl | exact ⟨by omega, by omega⟩) (fun c1339 => ?_) (fun c1339 => ?_)
    · skip
      refine x_iinc k160_248 (ls' := [(2, vi (x2 + 1)), (0, .ref 256), (1, vi x1), (3, vi x3)]) rfl (by decide) rfl ?_
      refine x_goto k160_251 (t := 123) rfl ?_
      refine x_ls (l := [(0, .ref 256), (1, vi x1), (2, vi (x2 + 1))]) (show ([0, 1, 2] : List Nat).Nodup from by decide +kernel) ⟨rfl, rfl, rfl, trivial⟩ ?_
      exact ih_123 s x1 (x2 + 1) x1000 hG f (by first | exact x_rb b_x1 rfl rfl | exact ⟨by omega, by omega⟩) ⟨by omega, by omega⟩ (by first | exact x_rb b_x1000 rfl rfl | exact ⟨by omega, by omega⟩) (by omega) (by omega) w_2 (FoQ.round w_3 (by omega) (by omega)) (by omega) (e_x1000.symm).symm (by omega)
    · skip
      have fa := pR.f1 (r := x3) ⟨by omega, by omega⟩
      have ga : (0 : Int) ≤ s 181 x3.toNat ∧ s 181 x3.toNat ≤ 9 := hG 181 x3.toNat
      have gf := f 181 x3.toNat (show 1472 ∉ [5312, 5376, 4123] from by decide +kernel)
      have gf2 := f 271 x3.toNat (show 5056 ∉ [5312, 5376, 4123] from by decide +kernel)
      refine x_A k160_138 (fun _ => rfl) ?_
      refine x_getR k160_139 (f := 19) rfl (q := 256) (n := 62) (kd := 15) ⟨by decide, rfl⟩ (q2 := 271) (by decide) rfl ?_
      refine x_A k160_142 (fun _ => rfl) ?_
      refine x_iald k160_143 (q := 271) (n := 9) ⟨by decide, rfl⟩ (by decide) (by first | exact x_rbl b_x3 rfl rfl | exact ⟨by omega, by omega⟩) ?_
      refine x_top (fun z1340 e_z1340 => ?_)
      have g_z1340 : (0 : Int) ≤ s 271 x3.toNat ∧ s 271 x3.toNat ≤ 64 := hG 271 x3.toNat
      refine x_istore k160_144 (ls' := [(4, vi z1340), (0, .ref 256), (1, vi x1), (2, vi x2), (3, vi x3)]) (by decide) rfl ?_
      refine x_ls (l := [(0, .ref 256), (1, vi x1), (2, vi x2), (3, vi x3), (4, vi z1340)]) (show ([0, 1, 2, 3, 4] : List Nat).Nodup from by decide +kernel) ⟨rfl, rfl, rfl, rfl, rfl, trivial⟩ ?_
      exact L_E_X11_findRules_256_146 s0 hJ0 a b_a pR n_123 ih_123 n ih (((64 - z1340) + 1 : Int)).toNat s x1 x2 x3 z1340 x1000 hG f (by first | exact x_rb b_x1 rfl rfl | exact ⟨by omega, by omega⟩) (by first | exact x_rb b_x2 rfl rfl | exact ⟨by omega, by omega⟩) (by first | exact x_rb b_x3 rfl rfl | exact ⟨by omega, by omega⟩) (by first | exact x_rbe e_z1340 g_z1340 rfl rfl | exact x_rb g_z1340 rfl rfl | exact ⟨by omega, by omega⟩) (by first | exact x_rb b_x1000 rfl rfl | exact ⟨by omega, by omega⟩) (by omega) (by omega) (by omega) (by omega) w_2 (FrH_0 w_3 (by rw [← f 271 x3.toNat (show 5056 ∉ [5312, 5376, 4123] from by decide +kernel)]; omega)) (by omega) (by omega) (by omega) (e_x1000.symm).symm (by omega) (by omega) (by omega)
set_option maxHeartbeats 8000000 in
theorem L_E_X11_findRules_256_123 (s0 : xS) (hJ0 : J s0) (a : Int) (b_a : 0 ≤ a ∧ a ≤ 9) (pR : R1 s0)  : ∀ (n : Nat) (s : xS) (x1 : Int) (x2 : Int) (x1000 : Int) (hG : GI s) (f : FL [5312, 5376, 4123] s0 s) (b_x1 : 0 ≤ x1 ∧ x1 ≤ 9) (b_x2 : 0 ≤ x2 ∧ x2 ≤ 10) (b_x1000 : 0 ≤ x1000 ∧ x1000 ≤ 8) (w_0 : x1 = a) (w_1 : x1000 = s0 256 17 ∧ x1000 ≤ 8) (w_2 : FrI s s0 a (-1)) (w_3 : FoQ s (foFR s0 a x2.toNat)) (w_4 : 0 ≤ x2 ∧ x2 ≤ a + 1) (e_x1000 : x1000 = s 256 17)  (hm : (10 - x2) < (n : Int)), xe none 160 123 [(0, .ref 256), (1, vi x1), (2, vi x2)] [] s 0 0 (fun s' v => GI s' ∧ FL [5312, 5376, 4123] s0 s' ∧ v = none ∧ (FrZ s' s0 a)) := by
  intro n
  induction n with
  | zero => intro s x1 x2 x1000 hG f b_x1 b_x2 b_x1000 w_0 w_1 w_2 w_3 w_4 e_x1000  hm; exfalso; omega
  | succ n ih =>
    intro s x1 x2 x1000 hG f b_x1 b_x2 b_x1000 w_0 w_1 w_2 w_3 w_4 e_x1000  hm
    refine x_A k160_123 (fun _ => rfl) ?_
    refine x_A k160_124 (fun _ => rfl) ?_
    refine x_ic_gt k160_125 (t := 254) rfl (by first | exact x_rb b_x2 rfl rfl | exact ⟨by omega, by omega⟩) (by first | exact x_rb b_x1 rfl rfl | exact ⟨by omega, by omega⟩) (fun c1341 => ?_) (fun c1341 => ?_)
    · skip
      exact x_vret k160_254 rfl ⟨hG, f, rfl, ⟨w_2, by have w := w_3; rw [show x2 = a + 1 by omega] at w; exact w⟩⟩
    · skip
      refine x_A k160_128 (fun _ => rfl) ?_
      refine x_istore_n k160_129 (ls' := [(3, vi 0), (0, .ref 256), (1, vi x1), (2, vi x2)]) (by decide) rfl ?_
      refine x_ls (l := [(0, .ref 256), (1, vi x1), (2, vi x2), (3, vi 0)]) (show ([0, 1, 2, 3] : List Nat).Nodup from by decide +kernel) ⟨rfl, rfl, rfl, rfl, trivial⟩ ?_
      exact L_E_X11_findRules_256_130 s0 hJ0 a b_a pR n (fun s x1 x2 x1000 hG f b_x1 b_x2 b_x1000 w_0 w_1 w_2 w_3 w_4 e_x1000 hm => ih s x1 x2 x1000 hG f b_x1 b_x2 b_x1000 w_0 w_1 w_2 w_3 w_4 e_x1000  hm) (((8 - 0) + 1 : Int)).toNat s x1 x2 0 x1000 hG f (by first | exact x_rb b_x1 rfl rfl | exact ⟨by omega, by omega⟩) (by first | exact x_rb b_x2 rfl rfl | exact ⟨by omega, by omega⟩) ⟨by decide, by decide⟩ (by first | exact x_rb b_x1000 rfl rfl | exact ⟨by omega, by omega⟩) (by omega) (by omega) (by omega) w_2 w_3 (by omega) (by omega) (e_x1000.symm).symm (by omega) (by omega)
set_option maxHeartbeats 8000000 in
theorem L_E_X11_findRules_256_96 (s0 : xS) (hJ0 : J s0) (a : Int) (b_a : 0 ≤ a ∧ a ≤ 9) (pR : R1 s0)  : ∀ (n : Nat) (s : xS) (x1 : Int) (x2 : Int) (x1000 : Int) (hG : GI s) (f : FL [5312, 5376, 4123] s0 s) (b_x1 : 0 ≤ x1 ∧ x1 ≤ 9) (b_x2 : 0 ≤ x2 ∧ x2 ≤ 6) (b_x1000 : 0 ≤ x1000 ∧ x1000 ≤ 8) (w_0 : x1 = a) (w_1 : x1000 = s0 256 17 ∧ x1000 ≤ 8) (w_2 : FrI s s0 a (-1)) (w_3 : ∀ k : Int, 0 ≤ k → k < x2 → s 276 k.toNat = 0) (e_x1000 : x1000 = s 256 17)  (hm : (6 - x2) < (n : Int)), xe none 160 96 [(0, .ref 256), (1, vi x1), (2, vi x2)] [] s 0 0 (fun s' v => GI s' ∧ FL [5312, 5376, 4123] s0 s' ∧ v = none ∧ (FrZ s' s0 a)) := by
  intro n
  induction n with
  | zero => intro s x1 x2 x1000 hG f b_x1 b_x2 b_x1000 w_0 w_1 w_2 w_3 e_x1000  hm; exfalso; omega
  | succ n ih =>
    intro s x1 x2 x1000 hG f b_x1 b_x2 b_x1000 w_0 w_1 w_2 w_3 e_x1000  hm
    refine x_A k160_96 (fun _ => rfl) ?_
    refine x_bipush k160_97 (by decide +kernel) ?_
    refine x_ic_ge k160_99 (t := 115) rfl (by first | exact x_rb b_x2 rfl rfl | exact ⟨by omega, by omega⟩) ⟨by decide, by decide⟩ (fun c1342 => ?_) (fun c1342 => ?_)
    · skip
      refine x_A k160_115 (fun _ => rfl) ?_
      refine x_bipush k160_116 (by decide +kernel) ?_
      refine x_putI k160_118 (f := 26) rfl (q := 256) (n := 62) (kd := 15) ⟨by decide, rfl⟩ rfl rfl rfl ?_
      refine x_nh (fun s1343 e_s1343 => ?_)
      have hG_s1343 : GI s1343 := by rw [e_s1343]; exact hG.up (show (-2147483648) ≤ 20 ∧ 20 ≤ 2147483647 from ⟨by decide, by decide⟩)
      have f_s1343 : FL [5312, 5376, 4123] s0 s1343 := by rw [e_s1343]; exact f.up (show 4123 ∈ [5312, 5376, 4123] from by decide +kernel)
      have q1344 : s1343 256 17 = x1000 := by rw [e_s1343, x_up_i (by decide)]; exact e_x1000.symm
      have q1345 : s1343 256 26 = 20 := by rw [e_s1343]; exact x_up_same
      refine x_A k160_121 (fun _ => rfl) ?_
      refine x_istore_n k160_122 (ls' := [(2, vi 0), (0, .ref 256), (1, vi x1)]) (by decide) rfl ?_
      refine x_ls (l := [(0, .ref 256), (1, vi x1), (2, vi 0)]) (show ([0, 1, 2] : List Nat).Nodup from by decide +kernel) ⟨rfl, rfl, rfl, trivial⟩ ?_
      exact L_E_X11_findRules_256_123 s0 hJ0 a b_a pR  (((10 - 0) + 1 : Int)).toNat s1343 x1 0 x1000 hG_s1343 f_s1343 (by first | exact x_rb b_x1 rfl rfl | exact ⟨by omega, by omega⟩) ⟨by decide, by decide⟩ (by first | exact x_rb b_x1000 rfl rfl | exact ⟨by omega, by omega⟩) (by omega) (by omega) (FrI.cg w_2 (funext fun i => by rw [e_s1343, x_up_q (by decide)])) (FoQ_0 (fun k k0 k1 => by rw [e_s1343, x_up_q (by decide)]; exact w_3 k k0 (by omega)) (by omega)) (by omega) (q1344).symm  (by omega)
    · skip
      refine x_A k160_102 (fun _ => rfl) ?_
      refine x_getR k160_103 (f := 25) rfl (q := 256) (n := 62) (kd := 15) ⟨by decide, rfl⟩ (q2 := 276) (by decide) rfl ?_
      refine x_A k160_106 (fun _ => rfl) ?_
      refine x_A k160_107 (fun _ => rfl) ?_
      refine x_iast k160_108 (q := 276) (n := 6) ⟨by decide, rfl⟩ (by decide) (by first | exact x_rbl b_x2 rfl rfl | exact ⟨by omega, by omega⟩) ?_
      refine x_nh (fun s1346 e_s1346 => ?_)
      have hG_s1346 : GI s1346 := by rw [e_s1346]; exact hG.up (show (-2147483648) ≤ 0 ∧ 0 ≤ 2147483647 from ⟨by decide, by decide⟩)
      have f_s1346 : FL [5312, 5376, 4123] s0 s1346 := by rw [e_s1346]; exact f.up (show 5376 ∈ [5312, 5376, 4123] from by decide +kernel)
      have q1347 : s1346 256 17 = x1000 := by rw [e_s1346, x_up_q (by decide)]; exact e_x1000.symm
      have q1348 : s1346 276 x2.toNat = 0 := by rw [e_s1346]; exact x_up_same
      refine x_iinc k160_109 (ls' := [(2, vi (x2 + 1)), (0, .ref 256), (1, vi x1)]) rfl (by decide) rfl ?_
      refine x_goto k160_112 (t := 96) rfl ?_
      refine x_ls (l := [(0, .ref 256), (1, vi x1), (2, vi (x2 + 1))]) (show ([0, 1, 2] : List Nat).Nodup from by decide +kernel) ⟨rfl, rfl, rfl, trivial⟩ ?_
      exact ih s1346 x1 (x2 + 1) x1000 hG_s1346 f_s1346 (by first | exact x_rb b_x1 rfl rfl | exact ⟨by omega, by omega⟩) ⟨by omega, by omega⟩ (by first | exact x_rb b_x1000 rfl rfl | exact ⟨by omega, by omega⟩) (by omega) (by omega) (FrI.cg w_2 (funext fun i => by rw [e_s1346, x_up_q (by decide)])) (by rw [e_s1346]; exact sn_z w_3 (by omega)) (q1347).symm  (by omega)
