set_option maxHeartbeats 8000000 in
theorem E_X11_readPair_256 (s0 : xS) (hG0 : GI s0) (a : Int) (b_a : 0 ≤ a ∧ a ≤ 71) (b : Int) (b_b : 1 ≤ b ∧ b ≤ 3) (pa2 : s0 256 36 ≤ s0 256 34) (i0_Ra : JRc s0 a) (i0_RC : RCk s0 s0 a) : xe none 185 0 (lv_args 0 [.ref 256, vi a, vi b]) [] s0 0 0 (fun s' v => GI s' ∧ FL [4133, 4136, 4132, 4134, 4135, 5184, 5248] s0 s' ∧ ∃ z, v = some (vi z) ∧ (0 ≤ z ∧ z ≤ 5) ∧ (RsR s0 s' (s0 283) (s0 256 34) (sk (s0 283) (s0 256 34) (s0 256 36)) (b + 1) (s0 256 17) a z) ∧ JRc s' a ∧ RCk s' s0 a) := by
  have f0 : FL [4133, 4136, 4132, 4134, 4135, 5184, 5248] s0 s0 := FL.rf
  show xe none 185 0 [(0, .ref 256), (1, vi a), (2, vi b)] [] s0 0 0 _
  have sl := sk_le (T := s0 283) (n := s0 256 34) (p := s0 256 36)
  have tl := te_le (T := s0 283) (n := s0 256 34) (p := sk (s0 283) (s0 256 34) (s0 256 36))
  obtain ⟨z1, e_z1⟩ : ∃ z, z = s0 256 34 := ⟨_, rfl⟩
  have g_z1 : (0 : Int) ≤ s0 256 34 ∧ s0 256 34 ≤ 160 := hG0 256 34
  obtain ⟨z2, e_z2⟩ : ∃ z, z = s0 256 35 := ⟨_, rfl⟩
  have g_z2 : (-2147483648) ≤ s0 256 35 ∧ s0 256 35 ≤ 2147483647 := hG0 256 35
  refine x_A k185_0 (fun _ => rfl) ?_
  refine x_A k185_1 (fun _ => rfl) ?_
  refine x_A k185_2 (fun _ => rfl) ?_
  refine x_A k185_3 (fun _ => rfl) ?_
  refine x_ic_ne k185_4 (t := 12) rfl (by first | exact x_rb b_b rfl rfl | exact ⟨by omega, by omega⟩) ⟨by decide, by decide⟩ (fun c3 => ?_) (fun c3 => ?_)
  · skip
    refine x_A k185_12 (fun _ => rfl) ?_
    refine x_A k185_13 (fun _ => rfl) ?_
    refine x_A k185_14 (fun _ => rfl) ?_
    refine x_callV k185_15 (y := 180) (n := 4) (w0 := 0) (w1 := 4) (as := [vi 0, vi 5, vi 2, vi 2]) (rest := []) (by decide +kernel) (q := 256) (nq := 62) (kq := 15) ⟨by decide, rfl⟩ rfl rfl rfl rfl (xe_mono (E_X11_readNumber_256 s0 hG0 0 ⟨by decide, by decide⟩ 5 ⟨by decide, by decide⟩ 2 ⟨by decide, by decide⟩ 2 ⟨by decide, by decide⟩ (by omega)) ?_)
    rintro s5 v ⟨hG_s5, t_s5, z4, rfl, g_z4, xp_z4⟩
    have f_s5 : FL [4133, 4136, 4132, 4134, 4135, 5184, 5248] s0 s5 := f0.tr t_s5 (by decide +kernel)
    have q6 : s5 256 34 = z1 := (t_s5 256 34 (show 4131 ∉ [4133, 4136, 4132] from by decide +kernel)).trans e_z1.symm
    have Ra_s5 : JRc s5 a := JRc.fl i0_Ra t_s5 (by decide +kernel)
    have RC_s5 : RCk s5 s0 a := RCk.fl i0_RC t_s5 (by decide +kernel)
    obtain ⟨z7, e_z7⟩ : ∃ z, z = s5 256 36 := ⟨_, rfl⟩
    have g_z7 : (0 : Int) ≤ s5 256 36 ∧ s5 256 36 ≤ 160 := hG_s5 256 36
    obtain ⟨z8, e_z8⟩ : ∃ z, z = s5 256 39 := ⟨_, rfl⟩
    have g_z8 : (0 : Int) ≤ s5 256 39 ∧ s5 256 39 ≤ 1100000 := hG_s5 256 39
    obtain ⟨z9, e_z9⟩ : ∃ z, z = s5 256 35 := ⟨_, rfl⟩
    have g_z9 : (-2147483648) ≤ s5 256 35 ∧ s5 256 35 ≤ 2147483647 := hG_s5 256 35
    show xe none 185 18 [(0, .ref 256), (1, vi a), (2, vi b)] [vi z4] s5 0 0 _
    have n1 := xp_z4
    clear xp_z4
    refine x_istore_n k185_18 (ls' := [(3, vi z4), (0, .ref 256), (1, vi a), (2, vi b)]) (by decide) rfl ?_
    refine x_A k185_19 (fun _ => rfl) ?_
    refine x_getR k185_20 (f := 22) rfl (q := 256) (n := 62) (kd := 15) ⟨by decide, rfl⟩ (q2 := 273) (by decide) rfl ?_
    refine x_A k185_23 (fun _ => rfl) ?_
    refine x_A k185_24 (fun _ => rfl) ?_
    refine x_getI k185_25 (f := 39) rfl (q := 256) (n := 62) (kd := 15) ⟨by decide, rfl⟩ (by decide) rfl ?_
    refine x_rw (e_z8.symm) ?_
    refine x_iast k185_28 (q := 273) (n := 72) ⟨by decide, rfl⟩ (by decide) (by first | exact x_rbl b_a rfl rfl | exact ⟨by omega, by omega⟩) ?_
    refine x_nh (fun s10 e_s10 => ?_)
    have hG_s10 : GI s10 := by rw [e_s10]; exact hG_s5.up (show (-2147483648) ≤ z8 ∧ z8 ≤ 2147483647 from (by first | exact x_rbe e_z8 g_z8 rfl rfl | exact x_rb g_z8 rfl rfl | exact ⟨by omega, by omega⟩))
    have f_s10 : FL [4133, 4136, 4132, 4134, 4135, 5184, 5248] s0 s10 := by rw [e_s10]; exact f_s5.up (show 5184 ∈ [4133, 4136, 4132, 4134, 4135, 5184, 5248] from by decide +kernel)
    have q11 : s10 256 34 = z1 := by rw [e_s10, x_up_q (by decide)]; exact q6
    have q12 : s10 256 36 = z7 := by rw [e_s10, x_up_q (by decide)]; exact e_z7.symm
    have q13 : s10 256 39 = z8 := by rw [e_s10, x_up_q (by decide)]; exact e_z8.symm
    have q14 : s10 256 35 = z9 := by rw [e_s10, x_up_q (by decide)]; exact e_z9.symm
    have q15 : s10 273 a.toNat = z8 := by rw [e_s10]; exact x_up_same
    have Ra_s10 : JRc s10 a := by rw [e_s10]; exact JRc.st Ra_s5 (by omega)
    have RC_s10 : RCk s10 s0 a := by rw [e_s10]; exact RCk.st RC_s5
    refine x_A k185_29 (fun _ => rfl) ?_
    refine x_if_le k185_30 (t := 37) rfl (by first | exact x_rbe e_z4 g_z4 rfl rfl | exact x_rb g_z4 rfl rfl | exact ⟨by omega, by omega⟩) (fun c16 => ?_) (fun c16 => ?_)
    · skip
      obtain ⟨n1z, n1a, -, n1d, n1e, n1f, n1g⟩ := n1
      specialize n1a (by omega)
      specialize n1d (by omega)
      specialize n1e (by omega)
      specialize n1g (by omega)
      refine x_A k185_37 (fun _ => rfl) ?_
      refine x_A k185_38 (fun _ => rfl) ?_
      refine x_A k185_39 (fun _ => rfl) ?_
      refine x_ic_ne k185_40 (t := 60) rfl (by first | exact x_rb b_b rfl rfl | exact ⟨by omega, by omega⟩) ⟨by decide, by decide⟩ (fun c17 => ?_) (fun c17 => ?_)
      · skip
        refine x_bipush k185_60 (by decide +kernel) ?_
        refine x_bipush k185_62 (by decide +kernel) ?_
        refine x_bipush k185_64 (by decide +kernel) ?_
        refine x_bipush k185_66 (by decide +kernel) ?_
        refine x_A k185_68 (fun _ => rfl) ?_
        refine x_A k185_69 (fun _ => rfl) ?_
        refine x_callS k185_70 (y := 179) (n := 6) (w0 := 1) (w1 := 6) (as := [vi 119, vi 105, vi 116, vi 104, vi 0, vi 0]) (rest := [.ref 256]) (by decide +kernel) rfl rfl rfl rfl (xe_mono (E_X11_code_c119_c105_c116_c104_c0_c0 s10 hG_s10 119 ⟨by decide, by decide⟩ 105 ⟨by decide, by decide⟩ 116 ⟨by decide, by decide⟩ 104 ⟨by decide, by decide⟩ 0 ⟨by decide, by decide⟩ 0 ⟨by decide, by decide⟩) ?_)
        rintro s19 v ⟨-, t_s19, z18, rfl, b_z18, xp_z18⟩
        rw [t_s19.nil]
        try rw [t_s19.nil] at xp_z18
        show xe none 185 73 [(3, vi z4), (0, .ref 256), (1, vi a), (2, vi b)] [vj z18, .ref 256] s10 0 0 _
        refine x_callV k185_73 (y := 181) (n := 1) (w0 := 0) (w1 := 2) (as := [vj z18]) (rest := []) (by decide +kernel) (q := 256) (nq := 62) (kq := 15) ⟨by decide, rfl⟩ rfl rfl rfl rfl (xe_mono (E_X11_needs_256 s10 hG_s10 z18 b_z18 (by omega) (by omega)) ?_)
        rintro s21 v ⟨hG_s21, t_s21, z20, rfl, g_z20, xp_z20⟩
        have f_s21 : FL [4133, 4136, 4132, 4134, 4135, 5184, 5248] s0 s21 := f_s10.tr t_s21 (by decide +kernel)
        have q22 : s21 256 34 = z1 := (t_s21 256 34 (show 4131 ∉ [4133, 4134, 4135, 4132] from by decide +kernel)).trans q11
        have q23 : s21 256 39 = z8 := (t_s21 256 39 (show 4136 ∉ [4133, 4134, 4135, 4132] from by decide +kernel)).trans q13
        have q24 : s21 273 a.toNat = z8 := (t_s21 273 a.toNat (show 5184 ∉ [4133, 4134, 4135, 4132] from by decide +kernel)).trans q15
        have Ra_s21 : JRc s21 a := JRc.fl Ra_s10 t_s21 (by decide +kernel)
        have RC_s21 : RCk s21 s0 a := RCk.fl RC_s10 t_s21 (by decide +kernel)
        obtain ⟨z25, e_z25⟩ : ∃ z, z = s21 256 36 := ⟨_, rfl⟩
        have g_z25 : (0 : Int) ≤ s21 256 36 ∧ s21 256 36 ≤ 160 := hG_s21 256 36
        obtain ⟨z26, e_z26⟩ : ∃ z, z = s21 256 35 := ⟨_, rfl⟩
        have g_z26 : (-2147483648) ≤ s21 256 35 ∧ s21 256 35 ≤ 2147483647 := hG_s21 256 35
        show xe none 185 76 [(3, vi z4), (0, .ref 256), (1, vi a), (2, vi b)] [vi z20] s21 0 0 _
        have n2 := xp_z20
        clear xp_z20
        rw [show s10 283 = s0 283 from funext fun i => f_s10 283 i (show 5824 ∉ [4133, 4136, 4132, 4134, 4135, 5184, 5248] from by decide +kernel), show s10 256 34 = s0 256 34 from f_s10 256 34 (show 4131 ∉ [4133, 4136, 4132, 4134, 4135, 5184, 5248] from by decide +kernel), show s10 256 36 = te (s0 283) (s0 256 34) (sk (s0 283) (s0 256 34) (s0 256 36)) by omega] at n2
        rw [show sk (s0 283) (s0 256 34) (te (s0 283) (s0 256 34) (sk (s0 283) (s0 256 34) (s0 256 36))) = nx (s0 283) (s0 256 34) (sk (s0 283) (s0 256 34) (s0 256 36)) from rfl] at n2
        have tl2 := te_le (T := s0 283) (n := s0 256 34) (p := nx (s0 283) (s0 256 34) (sk (s0 283) (s0 256 34) (s0 256 36)))
        have sl2 := sk_le (T := s0 283) (n := s0 256 34) (p := te (s0 283) (s0 256 34) (sk (s0 283) (s0 256 34) (s0 256 36)))
        refine x_istore_n k185_76 (ls' := [(3, vi z20), (0, .ref 256), (1, vi a), (2, vi b)]) (by decide) rfl ?_
        refine x_A k185_77 (fun _ => rfl) ?_
        refine x_if_le k185_78 (t := 85) rfl (by first | exact x_rbe e_z20 g_z20 rfl rfl | exact x_rb g_z20 rfl rfl | exact ⟨by omega, by omega⟩) (fun c27 => ?_) (fun c27 => ?_)
        · skip
          obtain ⟨n2o, n2f, n2g⟩ := n2
          have n2p := n2o.resolve_right (fun q => by omega)
          clear n2o
          refine x_A k185_85 (fun _ => rfl) ?_
          refine x_A k185_86 (fun _ => rfl) ?_
          refine x_A k185_87 (fun _ => rfl) ?_
          refine x_A k185_88 (fun _ => rfl) ?_
          refine x_ic_ne k185_89 (t := 96) rfl (by first | exact x_rb b_b rfl rfl | exact ⟨by omega, by omega⟩) ⟨by decide, by decide⟩ (fun c28 => by exfalso; omega) (fun c28 => ?_)
          refine x_A k185_92 (fun _ => rfl) ?_
          refine x_goto k185_93 (t := 98) rfl ?_
          refine x_A k185_98 (fun _ => rfl) ?_
          refine x_A k185_99 (fun _ => rfl) ?_
          refine x_callV k185_100 (y := 180) (n := 4) (w0 := 0) (w1 := 4) (as := [vi 0, vi 5, vi 2, vi 2]) (rest := []) (by decide +kernel) (q := 256) (nq := 62) (kq := 15) ⟨by decide, rfl⟩ rfl rfl rfl rfl (xe_mono (E_X11_readNumber_256 s21 hG_s21 0 ⟨by decide, by decide⟩ 5 ⟨by decide, by decide⟩ 2 ⟨by decide, by decide⟩ 2 ⟨by decide, by decide⟩ (by omega)) ?_)
          rintro s30 v ⟨hG_s30, t_s30, z29, rfl, g_z29, xp_z29⟩
          have f_s30 : FL [4133, 4136, 4132, 4134, 4135, 5184, 5248] s0 s30 := f_s21.tr t_s30 (by decide +kernel)
          have q31 : s30 256 34 = z1 := (t_s30 256 34 (show 4131 ∉ [4133, 4136, 4132] from by decide +kernel)).trans q22
          have q32 : s30 273 a.toNat = z8 := (t_s30 273 a.toNat (show 5184 ∉ [4133, 4136, 4132] from by decide +kernel)).trans q24
          have Ra_s30 : JRc s30 a := JRc.fl Ra_s21 t_s30 (by decide +kernel)
          have RC_s30 : RCk s30 s0 a := RCk.fl RC_s21 t_s30 (by decide +kernel)
          obtain ⟨z33, e_z33⟩ : ∃ z, z = s30 256 36 := ⟨_, rfl⟩
          have g_z33 : (0 : Int) ≤ s30 256 36 ∧ s30 256 36 ≤ 160 := hG_s30 256 36
          obtain ⟨z34, e_z34⟩ : ∃ z, z = s30 256 39 := ⟨_, rfl⟩
          have g_z34 : (0 : Int) ≤ s30 256 39 ∧ s30 256 39 ≤ 1100000 := hG_s30 256 39
          obtain ⟨z35, e_z35⟩ : ∃ z, z = s30 256 35 := ⟨_, rfl⟩
          have g_z35 : (-2147483648) ≤ s30 256 35 ∧ s30 256 35 ≤ 2147483647 := hG_s30 256 35
          show xe none 185 103 [(3, vi z20), (0, .ref 256), (1, vi a), (2, vi b)] [vi z29] s30 0 0 _
          have n3 := xp_z29
          clear xp_z29
          rw [show s21 283 = s0 283 from funext fun i => f_s21 283 i (show 5824 ∉ [4133, 4136, 4132, 4134, 4135, 5184, 5248] from by decide +kernel), show s21 256 34 = s0 256 34 from f_s21 256 34 (show 4131 ∉ [4133, 4136, 4132, 4134, 4135, 5184, 5248] from by decide +kernel), show s21 256 36 = te (s0 283) (s0 256 34) (nx (s0 283) (s0 256 34) (sk (s0 283) (s0 256 34) (s0 256 36))) by omega] at n3
          rw [show sk (s0 283) (s0 256 34) (te (s0 283) (s0 256 34) (nx (s0 283) (s0 256 34) (sk (s0 283) (s0 256 34) (s0 256 36)))) = nx (s0 283) (s0 256 34) (nx (s0 283) (s0 256 34) (sk (s0 283) (s0 256 34) (s0 256 36))) from rfl] at n3
          have tl3 := te_le (T := s0 283) (n := s0 256 34) (p := nx (s0 283) (s0 256 34) (nx (s0 283) (s0 256 34) (sk (s0 283) (s0 256 34) (s0 256 36))))
          have sl3 := sk_le (T := s0 283) (n := s0 256 34) (p := te (s0 283) (s0 256 34) (nx (s0 283) (s0 256 34) (sk (s0 283) (s0 256 34) (s0 256 36))))
          refine x_istore_n k185_103 (ls' := [(3, vi z29), (0, .ref 256), (1, vi a), (2, vi b)]) (by decide) rfl ?_
          refine x_A k185_104 (fun _ => rfl) ?_
          refine x_getR k185_105 (f := 23) rfl (q := 256) (n := 62) (kd := 15) ⟨by decide, rfl⟩ (q2 := 274) (by decide) rfl ?_
          refine x_A k185_108 (fun _ => rfl) ?_
          refine x_A k185_109 (fun _ => rfl) ?_
          refine x_getI k185_110 (f := 39) rfl (q := 256) (n := 62) (kd := 15) ⟨by decide, rfl⟩ (by decide) rfl ?_
          refine x_rw (e_z34.symm) ?_
          refine x_iast k185_113 (q := 274) (n := 72) ⟨by decide, rfl⟩ (by decide) (by first | exact x_rbl b_a rfl rfl | exact ⟨by omega, by omega⟩) ?_
          refine x_nh (fun s36 e_s36 => ?_)
          have hG_s36 : GI s36 := by rw [e_s36]; exact hG_s30.up (show (-2147483648) ≤ z34 ∧ z34 ≤ 2147483647 from (by first | exact x_rbe e_z34 g_z34 rfl rfl | exact x_rb g_z34 rfl rfl | exact ⟨by omega, by omega⟩))
          have f_s36 : FL [4133, 4136, 4132, 4134, 4135, 5184, 5248] s0 s36 := by rw [e_s36]; exact f_s30.up (show 5248 ∈ [4133, 4136, 4132, 4134, 4135, 5184, 5248] from by decide +kernel)
          have q37 : s36 256 34 = z1 := by rw [e_s36, x_up_q (by decide)]; exact q31
          have q38 : s36 256 36 = z33 := by rw [e_s36, x_up_q (by decide)]; exact e_z33.symm
          have q39 : s36 256 39 = z34 := by rw [e_s36, x_up_q (by decide)]; exact e_z34.symm
          have q40 : s36 256 35 = z35 := by rw [e_s36, x_up_q (by decide)]; exact e_z35.symm
          have q41 : s36 273 a.toNat = z8 := by rw [e_s36, x_up_q (by first | decide | omega)]; exact q32
          have q42 : s36 274 a.toNat = z34 := by rw [e_s36]; exact x_up_same
          have Ra_s36 : JRc s36 a := by rw [e_s36]; exact JRc.up Ra_s30 (show 5248 ∉ [5120, 5184] from by decide +kernel)
          have RC_s36 : RCk s36 s0 a := by rw [e_s36]; exact RCk.st RC_s30
          refine x_A k185_114 (fun _ => rfl) ?_
          exact x_iret k185_115 rfl ⟨hG_s36, f_s36, z29, rfl, (by first | exact x_rbe e_z29 g_z29 rfl rfl | exact x_rb g_z29 rfl rfl | exact ⟨by omega, by omega⟩), (by rw [show b + 1 = 3 by omega]; have e1 := f1_3 (T := s0 283) (n := s0 256 34) (p := sk (s0 283) (s0 256 34) (s0 256 36)) (R := s0 256 17); have s1 := s2_3 (s0 283) (s0 256 34) (nx (s0 283) (s0 256 34) (sk (s0 283) (s0 256 34) (s0 256 36))); have r1 := rs_n (T := s0 283) (n := s0 256 34) (p := sk (s0 283) (s0 256 34) (s0 256 36)) (k := 3) (R := s0 256 17) (by omega); have s1 := s1.1 (by omega); exact ⟨by rw [r1.1, s1.1]; exact n3.1, fun w => by have n3c := n3.2.2.1 w; clear n3; omega, fun w => (by have n3a := n3.2.1 w; have n3d := n3.2.2.2.1 w; have n3f := n3.2.2.2.2.2; clear n3; exact ⟨by rw [show s36 256 36 = te (s0 283) (s0 256 34) (nx (s0 283) (s0 256 34) (nx (s0 283) (s0 256 34) (sk (s0 283) (s0 256 34) (s0 256 36)))) by omega]; exact s1.2.2.2.symm, by omega, by omega, by omega, by omega, by omega⟩)⟩), Ra_s36, RC_s36⟩
        · skip
          obtain ⟨n2o, n2f, n2g⟩ := n2
          have n2p := n2o.resolve_left (fun q => by omega)
          clear n2o
          refine x_A k185_81 (fun _ => rfl) ?_
          refine x_goto k185_82 (t := 103) rfl ?_
          refine x_istore_n k185_103 (ls' := [(3, vi z20), (0, .ref 256), (1, vi a), (2, vi b)]) (by decide) rfl ?_
          refine x_A k185_104 (fun _ => rfl) ?_
          refine x_getR k185_105 (f := 23) rfl (q := 256) (n := 62) (kd := 15) ⟨by decide, rfl⟩ (q2 := 274) (by decide) rfl ?_
          refine x_A k185_108 (fun _ => rfl) ?_
          refine x_A k185_109 (fun _ => rfl) ?_
          refine x_getI k185_110 (f := 39) rfl (q := 256) (n := 62) (kd := 15) ⟨by decide, rfl⟩ (by decide) rfl ?_
          refine x_rw (q23) ?_
          refine x_iast k185_113 (q := 274) (n := 72) ⟨by decide, rfl⟩ (by decide) (by first | exact x_rbl b_a rfl rfl | exact ⟨by omega, by omega⟩) ?_
          refine x_nh (fun s43 e_s43 => ?_)
          have hG_s43 : GI s43 := by rw [e_s43]; exact hG_s21.up (show (-2147483648) ≤ z8 ∧ z8 ≤ 2147483647 from (by first | exact x_rbe e_z8 g_z8 rfl rfl | exact x_rb g_z8 rfl rfl | exact ⟨by omega, by omega⟩))
          have f_s43 : FL [4133, 4136, 4132, 4134, 4135, 5184, 5248] s0 s43 := by rw [e_s43]; exact f_s21.up (show 5248 ∈ [4133, 4136, 4132, 4134, 4135, 5184, 5248] from by decide +kernel)
          have q44 : s43 256 34 = z1 := by rw [e_s43, x_up_q (by decide)]; exact q22
          have q45 : s43 256 39 = z8 := by rw [e_s43, x_up_q (by decide)]; exact q23
          have q46 : s43 256 36 = z25 := by rw [e_s43, x_up_q (by decide)]; exact e_z25.symm
          have q47 : s43 256 35 = z26 := by rw [e_s43, x_up_q (by decide)]; exact e_z26.symm
          have q48 : s43 273 a.toNat = z8 := by rw [e_s43, x_up_q (by first | decide | omega)]; exact q24
          have q49 : s43 274 a.toNat = z8 := by rw [e_s43]; exact x_up_same
          have Ra_s43 : JRc s43 a := by rw [e_s43]; exact JRc.up Ra_s21 (show 5248 ∉ [5120, 5184] from by decide +kernel)
          have RC_s43 : RCk s43 s0 a := by rw [e_s43]; exact RCk.st RC_s21
          refine x_A k185_114 (fun _ => rfl) ?_
          exact x_iret k185_115 rfl ⟨hG_s43, f_s43, z20, rfl, (by first | exact x_rbe e_z20 g_z20 rfl rfl | exact x_rb g_z20 rfl rfl | exact ⟨by omega, by omega⟩), (by rw [show b + 1 = 3 by omega]; have e1 := f1_3 (T := s0 283) (n := s0 256 34) (p := sk (s0 283) (s0 256 34) (s0 256 36)) (R := s0 256 17); have s1 := s2_3 (s0 283) (s0 256 34) (nx (s0 283) (s0 256 34) (sk (s0 283) (s0 256 34) (s0 256 36))); have r1 := rs_n (T := s0 283) (n := s0 256 34) (p := sk (s0 283) (s0 256 34) (s0 256 36)) (k := 3) (R := s0 256 17) (by omega); have s1 := s1.2 (by omega); exact ⟨by omega, fun w => by omega, fun w => by omega⟩), Ra_s43, RC_s43⟩
      · skip
        refine x_bipush k185_43 (by decide +kernel) ?_
        refine x_bipush k185_45 (by decide +kernel) ?_
        refine x_bipush k185_47 (by decide +kernel) ?_
        refine x_bipush k185_49 (by decide +kernel) ?_
        refine x_bipush k185_51 (by decide +kernel) ?_
        refine x_A k185_53 (fun _ => rfl) ?_
        refine x_callS k185_54 (y := 179) (n := 6) (w0 := 1) (w1 := 6) (as := [vi 117, vi 110, vi 100, vi 101, vi 114, vi 0]) (rest := [.ref 256]) (by decide +kernel) rfl rfl rfl rfl (xe_mono (E_X11_code_c117_c110_c100_c101_c114_c0 s10 hG_s10 117 ⟨by decide, by decide⟩ 110 ⟨by decide, by decide⟩ 100 ⟨by decide, by decide⟩ 101 ⟨by decide, by decide⟩ 114 ⟨by decide, by decide⟩ 0 ⟨by decide, by decide⟩) ?_)
        rintro s51 v ⟨-, t_s51, z50, rfl, b_z50, xp_z50⟩
        rw [t_s51.nil]
        try rw [t_s51.nil] at xp_z50
        show xe none 185 57 [(3, vi z4), (0, .ref 256), (1, vi a), (2, vi b)] [vj z50, .ref 256] s10 0 0 _
        refine x_goto k185_57 (t := 73) rfl ?_
        refine x_callV k185_73 (y := 181) (n := 1) (w0 := 0) (w1 := 2) (as := [vj z50]) (rest := []) (by decide +kernel) (q := 256) (nq := 62) (kq := 15) ⟨by decide, rfl⟩ rfl rfl rfl rfl (xe_mono (E_X11_needs_256 s10 hG_s10 z50 b_z50 (by omega) (by omega)) ?_)
        rintro s53 v ⟨hG_s53, t_s53, z52, rfl, g_z52, xp_z52⟩
        have f_s53 : FL [4133, 4136, 4132, 4134, 4135, 5184, 5248] s0 s53 := f_s10.tr t_s53 (by decide +kernel)
        have q54 : s53 256 34 = z1 := (t_s53 256 34 (show 4131 ∉ [4133, 4134, 4135, 4132] from by decide +kernel)).trans q11
        have q55 : s53 256 39 = z8 := (t_s53 256 39 (show 4136 ∉ [4133, 4134, 4135, 4132] from by decide +kernel)).trans q13
        have q56 : s53 273 a.toNat = z8 := (t_s53 273 a.toNat (show 5184 ∉ [4133, 4134, 4135, 4132] from by decide +kernel)).trans q15
        have Ra_s53 : JRc s53 a := JRc.fl Ra_s10 t_s53 (by decide +kernel)
        have RC_s53 : RCk s53 s0 a := RCk.fl RC_s10 t_s53 (by decide +kernel)
        obtain ⟨z57, e_z57⟩ : ∃ z, z = s53 256 36 := ⟨_, rfl⟩
        have g_z57 : (0 : Int) ≤ s53 256 36 ∧ s53 256 36 ≤ 160 := hG_s53 256 36
        obtain ⟨z58, e_z58⟩ : ∃ z, z = s53 256 35 := ⟨_, rfl⟩
        have g_z58 : (-2147483648) ≤ s53 256 35 ∧ s53 256 35 ≤ 2147483647 := hG_s53 256 35
        show xe none 185 76 [(3, vi z4), (0, .ref 256), (1, vi a), (2, vi b)] [vi z52] s53 0 0 _
        have n2 := xp_z52
        clear xp_z52
        rw [show s10 283 = s0 283 from funext fun i => f_s10 283 i (show 5824 ∉ [4133, 4136, 4132, 4134, 4135, 5184, 5248] from by decide +kernel), show s10 256 34 = s0 256 34 from f_s10 256 34 (show 4131 ∉ [4133, 4136, 4132, 4134, 4135, 5184, 5248] from by decide +kernel), show s10 256 36 = te (s0 283) (s0 256 34) (sk (s0 283) (s0 256 34) (s0 256 36)) by omega] at n2
        rw [show sk (s0 283) (s0 256 34) (te (s0 283) (s0 256 34) (sk (s0 283) (s0 256 34) (s0 256 36))) = nx (s0 283) (s0 256 34) (sk (s0 283) (s0 256 34) (s0 256 36)) from rfl] at n2
        have tl2 := te_le (T := s0 283) (n := s0 256 34) (p := nx (s0 283) (s0 256 34) (sk (s0 283) (s0 256 34) (s0 256 36)))
        have sl2 := sk_le (T := s0 283) (n := s0 256 34) (p := te (s0 283) (s0 256 34) (sk (s0 283) (s0 256 34) (s0 256 36)))
        refine x_istore_n k185_76 (ls' := [(3, vi z52), (0, .ref 256), (1, vi a), (2, vi b)]) (by decide) rfl ?_
        refine x_A k185_77 (fun _ => rfl) ?_
        refine x_if_le k185_78 (t := 85) rfl (by first | exact x_rbe e_z52 g_z52 rfl rfl | exact x_rb g_z52 rfl rfl | exact ⟨by omega, by omega⟩) (fun c59 => ?_) (fun c59 => ?_)
        · skip
          obtain ⟨n2o, n2f, n2g⟩ := n2
          have n2p := n2o.resolve_right (fun q => by omega)
          clear n2o
          refine x_A k185_85 (fun _ => rfl) ?_
          refine x_A k185_86 (fun _ => rfl) ?_
          refine x_A k185_87 (fun _ => rfl) ?_
          refine x_A k185_88 (fun _ => rfl) ?_
          refine x_ic_ne k185_89 (t := 96) rfl (by first | exact x_rb b_b rfl rfl | exact ⟨by omega, by omega⟩) ⟨by decide, by decide⟩ (fun c60 => ?_) (fun c60 => by exfalso; omega)
          refine x_bipush k185_96 (by decide +kernel) ?_
          refine x_A k185_98 (fun _ => rfl) ?_
          refine x_A k185_99 (fun _ => rfl) ?_
          refine x_callV k185_100 (y := 180) (n := 4) (w0 := 0) (w1 := 4) (as := [vi 0, vi 39, vi 2, vi 2]) (rest := []) (by decide +kernel) (q := 256) (nq := 62) (kq := 15) ⟨by decide, rfl⟩ rfl rfl rfl rfl (xe_mono (E_X11_readNumber_256 s53 hG_s53 0 ⟨by decide, by decide⟩ 39 ⟨by decide, by decide⟩ 2 ⟨by decide, by decide⟩ 2 ⟨by decide, by decide⟩ (by omega)) ?_)
          rintro s62 v ⟨hG_s62, t_s62, z61, rfl, g_z61, xp_z61⟩
          have f_s62 : FL [4133, 4136, 4132, 4134, 4135, 5184, 5248] s0 s62 := f_s53.tr t_s62 (by decide +kernel)
          have q63 : s62 256 34 = z1 := (t_s62 256 34 (show 4131 ∉ [4133, 4136, 4132] from by decide +kernel)).trans q54
          have q64 : s62 273 a.toNat = z8 := (t_s62 273 a.toNat (show 5184 ∉ [4133, 4136, 4132] from by decide +kernel)).trans q56
          have Ra_s62 : JRc s62 a := JRc.fl Ra_s53 t_s62 (by decide +kernel)
          have RC_s62 : RCk s62 s0 a := RCk.fl RC_s53 t_s62 (by decide +kernel)
          obtain ⟨z65, e_z65⟩ : ∃ z, z = s62 256 36 := ⟨_, rfl⟩
          have g_z65 : (0 : Int) ≤ s62 256 36 ∧ s62 256 36 ≤ 160 := hG_s62 256 36
          obtain ⟨z66, e_z66⟩ : ∃ z, z = s62 256 39 := ⟨_, rfl⟩
          have g_z66 : (0 : Int) ≤ s62 256 39 ∧ s62 256 39 ≤ 1100000 := hG_s62 256 39
          obtain ⟨z67, e_z67⟩ : ∃ z, z = s62 256 35 := ⟨_, rfl⟩
          have g_z67 : (-2147483648) ≤ s62 256 35 ∧ s62 256 35 ≤ 2147483647 := hG_s62 256 35
          show xe none 185 103 [(3, vi z52), (0, .ref 256), (1, vi a), (2, vi b)] [vi z61] s62 0 0 _
          have n3 := xp_z61
          clear xp_z61
          rw [show s53 283 = s0 283 from funext fun i => f_s53 283 i (show 5824 ∉ [4133, 4136, 4132, 4134, 4135, 5184, 5248] from by decide +kernel), show s53 256 34 = s0 256 34 from f_s53 256 34 (show 4131 ∉ [4133, 4136, 4132, 4134, 4135, 5184, 5248] from by decide +kernel), show s53 256 36 = te (s0 283) (s0 256 34) (nx (s0 283) (s0 256 34) (sk (s0 283) (s0 256 34) (s0 256 36))) by omega] at n3
          rw [show sk (s0 283) (s0 256 34) (te (s0 283) (s0 256 34) (nx (s0 283) (s0 256 34) (sk (s0 283) (s0 256 34) (s0 256 36)))) = nx (s0 283) (s0 256 34) (nx (s0 283) (s0 256 34) (sk (s0 283) (s0 256 34) (s0 256 36))) from rfl] at n3
          have tl3 := te_le (T := s0 283) (n := s0 256 34) (p := nx (s0 283) (s0 256 34) (nx (s0 283) (s0 256 34) (sk (s0 283) (s0 256 34) (s0 256 36))))
          have sl3 := sk_le (T := s0 283) (n := s0 256 34) (p := te (s0 283) (s0 256 34) (nx (s0 283) (s0 256 34) (sk (s0 283) (s0 256 34) (s0 256 36))))
          refine x_istore_n k185_103 (ls' := [(3, vi z61), (0, .ref 256), (1, vi a), (2, vi b)]) (by decide) rfl ?_
          refine x_A k185_104 (fun _ => rfl) ?_
          refine x_getR k185_105 (f := 23) rfl (q := 256) (n := 62) (kd := 15) ⟨by decide, rfl⟩ (q2 := 274) (by decide) rfl ?_
          refine x_A k185_108 (fun _ => rfl) ?_
          refine x_A k185_109 (fun _ => rfl) ?_
          refine x_getI k185_110 (f := 39) rfl (q := 256) (n := 62) (kd := 15) ⟨by decide, rfl⟩ (by decide) rfl ?_
          refine x_rw (e_z66.symm) ?_
          refine x_iast k185_113 (q := 274) (n := 72) ⟨by decide, rfl⟩ (by decide) (by first | exact x_rbl b_a rfl rfl | exact ⟨by omega, by omega⟩) ?_
          refine x_nh (fun s68 e_s68 => ?_)
          have hG_s68 : GI s68 := by rw [e_s68]; exact hG_s62.up (show (-2147483648) ≤ z66 ∧ z66 ≤ 2147483647 from (by first | exact x_rbe e_z66 g_z66 rfl rfl | exact x_rb g_z66 rfl rfl | exact ⟨by omega, by omega⟩))
          have f_s68 : FL [4133, 4136, 4132, 4134, 4135, 5184, 5248] s0 s68 := by rw [e_s68]; exact f_s62.up (show 5248 ∈ [4133, 4136, 4132, 4134, 4135, 5184, 5248] from by decide +kernel)
          have q69 : s68 256 34 = z1 := by rw [e_s68, x_up_q (by decide)]; exact q63
          have q70 : s68 256 36 = z65 := by rw [e_s68, x_up_q (by decide)]; exact e_z65.symm
          have q71 : s68 256 39 = z66 := by rw [e_s68, x_up_q (by decide)]; exact e_z66.symm
          have q72 : s68 256 35 = z67 := by rw [e_s68, x_up_q (by decide)]; exact e_z67.symm
          have q73 : s68 273 a.toNat = z8 := by rw [e_s68, x_up_q (by first | decide | omega)]; exact q64
          have q74 : s68 274 a.toNat = z66 := by rw [e_s68]; exact x_up_same
          have Ra_s68 : JRc s68 a := by rw [e_s68]; exact JRc.up Ra_s62 (show 5248 ∉ [5120, 5184] from by decide +kernel)
          have RC_s68 : RCk s68 s0 a := by rw [e_s68]; exact RCk.st RC_s62
          refine x_A k185_114 (fun _ => rfl) ?_
          exact x_iret k185_115 rfl ⟨hG_s68, f_s68, z61, rfl, (by first | exact x_rbe e_z61 g_z61 rfl rfl | exact x_rb g_z61 rfl rfl | exact ⟨by omega, by omega⟩), (by rw [show b + 1 = 2 by omega]; have e1 := f1_2 (T := s0 283) (n := s0 256 34) (p := sk (s0 283) (s0 256 34) (s0 256 36)) (R := s0 256 17); have s1 := s2_2 (s0 283) (s0 256 34) (nx (s0 283) (s0 256 34) (sk (s0 283) (s0 256 34) (s0 256 36))); have r1 := rs_n (T := s0 283) (n := s0 256 34) (p := sk (s0 283) (s0 256 34) (s0 256 36)) (k := 2) (R := s0 256 17) (by omega); have s1 := s1.1 (by omega); exact ⟨by rw [r1.1, s1.1]; exact n3.1, fun w => by have n3c := n3.2.2.1 w; clear n3; omega, fun w => (by have n3a := n3.2.1 w; have n3d := n3.2.2.2.1 w; have n3f := n3.2.2.2.2.2; clear n3; exact ⟨by rw [show s68 256 36 = te (s0 283) (s0 256 34) (nx (s0 283) (s0 256 34) (nx (s0 283) (s0 256 34) (sk (s0 283) (s0 256 34) (s0 256 36)))) by omega]; exact s1.2.2.2.symm, by omega, by omega, by omega, by omega, by omega⟩)⟩), Ra_s68, RC_s68⟩
        · skip
          obtain ⟨n2o, n2f, n2g⟩ := n2
          have n2p := n2o.resolve_left (fun q => by omega)
          clear n2o
          refine x_A k185_81 (fun _ => rfl) ?_
          refine x_goto k185_82 (t := 103) rfl ?_
          refine x_istore_n k185_103 (ls' := [(3, vi z52), (0, .ref 256), (1, vi a), (2, vi b)]) (by decide) rfl ?_
          refine x_A k185_104 (fun _ => rfl) ?_
          refine x_getR k185_105 (f := 23) rfl (q := 256) (n := 62) (kd := 15) ⟨by decide, rfl⟩ (q2 := 274) (by decide) rfl ?_
          refine x_A k185_108 (fun _ => rfl) ?_
          refine x_A k185_109 (fun _ => rfl) ?_
          refine x_getI k185_110 (f := 39) rfl (q := 256) (n := 62) (kd := 15) ⟨by decide, rfl⟩ (by decide) rfl ?_
          refine x_rw (q55) ?_
          refine x_iast k185_113 (q := 274) (n := 72) ⟨by decide, rfl⟩ (by decide) (by first | exact x_rbl b_a rfl rfl | exact ⟨by omega, by omega⟩) ?_
          refine x_nh (fun s75 e_s75 => ?_)
          have hG_s75 : GI s75 := by rw [e_s75]; exact hG_s53.up (show (-2147483648) ≤ z8 ∧ z8 ≤ 2147483647 from (by first | exact x_rbe e_z8 g_z8 rfl rfl | exact x_rb g_z8 rfl rfl | exact ⟨by omega, by omega⟩))
          have f_s75 : FL [4133, 4136, 4132, 4134, 4135, 5184, 5248] s0 s75 := by rw [e_s75]; exact f_s53.up (show 5248 ∈ [4133, 4136, 4132, 4134, 4135, 5184, 5248] from by decide +kernel)
          have q76 : s75 256 34 = z1 := by rw [e_s75, x_up_q (by decide)]; exact q54
          have q77 : s75 256 39 = z8 := by rw [e_s75, x_up_q (by decide)]; exact q55
          have q78 : s75 256 36 = z57 := by rw [e_s75, x_up_q (by decide)]; exact e_z57.symm
          have q79 : s75 256 35 = z58 := by rw [e_s75, x_up_q (by decide)]; exact e_z58.symm
          have q80 : s75 273 a.toNat = z8 := by rw [e_s75, x_up_q (by first | decide | omega)]; exact q56
          have q81 : s75 274 a.toNat = z8 := by rw [e_s75]; exact x_up_same
          have Ra_s75 : JRc s75 a := by rw [e_s75]; exact JRc.up Ra_s53 (show 5248 ∉ [5120, 5184] from by decide +kernel)
          have RC_s75 : RCk s75 s0 a := by rw [e_s75]; exact RCk.st RC_s53
          refine x_A k185_114 (fun _ => rfl) ?_
          exact x_iret k185_115 rfl ⟨hG_s75, f_s75, z52, rfl, (by first | exact x_rbe e_z52 g_z52 rfl rfl | exact x_rb g_z52 rfl rfl | exact ⟨by omega, by omega⟩), (by rw [show b + 1 = 2 by omega]; have e1 := f1_2 (T := s0 283) (n := s0 256 34) (p := sk (s0 283) (s0 256 34) (s0 256 36)) (R := s0 256 17); have s1 := s2_2 (s0 283) (s0 256 34) (nx (s0 283) (s0 256 34) (sk (s0 283) (s0 256 34) (s0 256 36))); have r1 := rs_n (T := s0 283) (n := s0 256 34) (p := sk (s0 283) (s0 256 34) (s0 256 36)) (k := 2) (R := s0 256 17) (by omega); have s1 := s1.2 (by omega); exact ⟨by omega, fun w => by omega, fun w => by omega⟩), Ra_s75, RC_s75⟩
    · skip
      obtain ⟨n1z, -, n1c, -, -, n1f, n1g⟩ := n1
      specialize n1c (by omega)
      specialize n1g (by omega)
      refine x_A k185_33 (fun _ => rfl) ?_
      refine x_goto k185_34 (t := 76) rfl ?_
      refine x_istore_n k185_76 (ls' := [(3, vi z4), (0, .ref 256), (1, vi a), (2, vi b)]) (by decide) rfl ?_
      refine x_A k185_77 (fun _ => rfl) ?_
      refine x_if_le k185_78 (t := 85) rfl (by first | exact x_rbe e_z4 g_z4 rfl rfl | exact x_rb g_z4 rfl rfl | exact ⟨by omega, by omega⟩) (fun c82 => by exfalso; omega) (fun c82 => ?_)
      refine x_A k185_81 (fun _ => rfl) ?_
      refine x_goto k185_82 (t := 103) rfl ?_
      refine x_istore_n k185_103 (ls' := [(3, vi z4), (0, .ref 256), (1, vi a), (2, vi b)]) (by decide) rfl ?_
      refine x_A k185_104 (fun _ => rfl) ?_
      refine x_getR k185_105 (f := 23) rfl (q := 256) (n := 62) (kd := 15) ⟨by decide, rfl⟩ (q2 := 274) (by decide) rfl ?_
      refine x_A k185_108 (fun _ => rfl) ?_
      refine x_A k185_109 (fun _ => rfl) ?_
      refine x_getI k185_110 (f := 39) rfl (q := 256) (n := 62) (kd := 15) ⟨by decide, rfl⟩ (by decide) rfl ?_
      refine x_rw (q13) ?_
      refine x_iast k185_113 (q := 274) (n := 72) ⟨by decide, rfl⟩ (by decide) (by first | exact x_rbl b_a rfl rfl | exact ⟨by omega, by omega⟩) ?_
      refine x_nh (fun s83 e_s83 => ?_)
      have hG_s83 : GI s83 := by rw [e_s83]; exact hG_s10.up (show (-2147483648) ≤ z8 ∧ z8 ≤ 2147483647 from (by first | exact x_rbe e_z8 g_z8 rfl rfl | exact x_rb g_z8 rfl rfl | exact ⟨by omega, by omega⟩))
      have f_s83 : FL [4133, 4136, 4132, 4134, 4135, 5184, 5248] s0 s83 := by rw [e_s83]; exact f_s10.up (show 5248 ∈ [4133, 4136, 4132, 4134, 4135, 5184, 5248] from by decide +kernel)
      have q84 : s83 256 34 = z1 := by rw [e_s83, x_up_q (by decide)]; exact q11
      have q85 : s83 256 36 = z7 := by rw [e_s83, x_up_q (by decide)]; exact q12
      have q86 : s83 256 39 = z8 := by rw [e_s83, x_up_q (by decide)]; exact q13
      have q87 : s83 256 35 = z9 := by rw [e_s83, x_up_q (by decide)]; exact q14
      have q88 : s83 273 a.toNat = z8 := by rw [e_s83, x_up_q (by first | decide | omega)]; exact q15
      have q89 : s83 274 a.toNat = z8 := by rw [e_s83]; exact x_up_same
      have Ra_s83 : JRc s83 a := by rw [e_s83]; exact JRc.up Ra_s10 (show 5248 ∉ [5120, 5184] from by decide +kernel)
      have RC_s83 : RCk s83 s0 a := by rw [e_s83]; exact RCk.st RC_s10
      refine x_A k185_114 (fun _ => rfl) ?_
      exact x_iret k185_115 rfl ⟨hG_s83, f_s83, z4, rfl, (by first | exact x_rbe e_z4 g_z4 rfl rfl | exact x_rb g_z4 rfl rfl | exact ⟨by omega, by omega⟩), (by rcases (show b = 1 ∨ b = 2 by omega) with hb | hb; (rw [show b + 1 = 2 by omega]; have e1 := f1_2 (T := s0 283) (n := s0 256 34) (p := sk (s0 283) (s0 256 34) (s0 256 36)) (R := s0 256 17); have s1 := s2_2 (s0 283) (s0 256 34) (nx (s0 283) (s0 256 34) (sk (s0 283) (s0 256 34) (s0 256 36))); have r1 := rs_y (T := s0 283) (n := s0 256 34) (p := sk (s0 283) (s0 256 34) (s0 256 36)) (k := 2) (R := s0 256 17) (by omega); clear s1; exact ⟨by omega, fun w => by omega, fun w => by omega⟩); (rw [show b + 1 = 3 by omega]; have e1 := f1_3 (T := s0 283) (n := s0 256 34) (p := sk (s0 283) (s0 256 34) (s0 256 36)) (R := s0 256 17); have s1 := s2_3 (s0 283) (s0 256 34) (nx (s0 283) (s0 256 34) (sk (s0 283) (s0 256 34) (s0 256 36))); have r1 := rs_y (T := s0 283) (n := s0 256 34) (p := sk (s0 283) (s0 256 34) (s0 256 36)) (k := 3) (R := s0 256 17) (by omega); clear s1; exact ⟨by omega, fun w => by omega, fun w => by omega⟩)), Ra_s83, RC_s83⟩
  · skip
    refine x_bipush k185_7 (by decide +kernel) ?_
    refine x_goto k185_9 (t := 13) rfl ?_
    refine x_A k185_13 (fun _ => rfl) ?_
    refine x_A k185_14 (fun _ => rfl) ?_
    refine x_callV k185_15 (y := 180) (n := 4) (w0 := 0) (w1 := 4) (as := [vi 0, vi 39, vi 2, vi 2]) (rest := []) (by decide +kernel) (q := 256) (nq := 62) (kq := 15) ⟨by decide, rfl⟩ rfl rfl rfl rfl (xe_mono (E_X11_readNumber_256 s0 hG0 0 ⟨by decide, by decide⟩ 39 ⟨by decide, by decide⟩ 2 ⟨by decide, by decide⟩ 2 ⟨by decide, by decide⟩ (by omega)) ?_)
    rintro s91 v ⟨hG_s91, t_s91, z90, rfl, g_z90, xp_z90⟩
    have f_s91 : FL [4133, 4136, 4132, 4134, 4135, 5184, 5248] s0 s91 := f0.tr t_s91 (by decide +kernel)
    have q92 : s91 256 34 = z1 := (t_s91 256 34 (show 4131 ∉ [4133, 4136, 4132] from by decide +kernel)).trans e_z1.symm
    have Ra_s91 : JRc s91 a := JRc.fl i0_Ra t_s91 (by decide +kernel)
    have RC_s91 : RCk s91 s0 a := RCk.fl i0_RC t_s91 (by decide +kernel)
    obtain ⟨z93, e_z93⟩ : ∃ z, z = s91 256 36 := ⟨_, rfl⟩
    have g_z93 : (0 : Int) ≤ s91 256 36 ∧ s91 256 36 ≤ 160 := hG_s91 256 36
    obtain ⟨z94, e_z94⟩ : ∃ z, z = s91 256 39 := ⟨_, rfl⟩
    have g_z94 : (0 : Int) ≤ s91 256 39 ∧ s91 256 39 ≤ 1100000 := hG_s91 256 39
    obtain ⟨z95, e_z95⟩ : ∃ z, z = s91 256 35 := ⟨_, rfl⟩
    have g_z95 : (-2147483648) ≤ s91 256 35 ∧ s91 256 35 ≤ 2147483647 := hG_s91 256 35
    show xe none 185 18 [(0, .ref 256), (1, vi a), (2, vi b)] [vi z90] s91 0 0 _
    have n1 := xp_z90
    clear xp_z90
    refine x_istore_n k185_18 (ls' := [(3, vi z90), (0, .ref 256), (1, vi a), (2, vi b)]) (by decide) rfl ?_
    refine x_A k185_19 (fun _ => rfl) ?_
    refine x_getR k185_20 (f := 22) rfl (q := 256) (n := 62) (kd := 15) ⟨by decide, rfl⟩ (q2 := 273) (by decide) rfl ?_
    refine x_A k185_23 (fun _ => rfl) ?_
    refine x_A k185_24 (fun _ => rfl) ?_
    refine x_getI k185_25 (f := 39) rfl (q := 256) (n := 62) (kd := 15) ⟨by decide, rfl⟩ (by decide) rfl ?_
    refine x_rw (e_z94.symm) ?_
    refine x_iast k185_28 (q := 273) (n := 72) ⟨by decide, rfl⟩ (by decide) (by first | exact x_rbl b_a rfl rfl | exact ⟨by omega, by omega⟩) ?_
    refine x_nh (fun s96 e_s96 => ?_)
    have hG_s96 : GI s96 := by rw [e_s96]; exact hG_s91.up (show (-2147483648) ≤ z94 ∧ z94 ≤ 2147483647 from (by first | exact x_rbe e_z94 g_z94 rfl rfl | exact x_rb g_z94 rfl rfl | exact ⟨by omega, by omega⟩))
    have f_s96 : FL [4133, 4136, 4132, 4134, 4135, 5184, 5248] s0 s96 := by rw [e_s96]; exact f_s91.up (show 5184 ∈ [4133, 4136, 4132, 4134, 4135, 5184, 5248] from by decide +kernel)
    have q97 : s96 256 34 = z1 := by rw [e_s96, x_up_q (by decide)]; exact q92
    have q98 : s96 256 36 = z93 := by rw [e_s96, x_up_q (by decide)]; exact e_z93.symm
    have q99 : s96 256 39 = z94 := by rw [e_s96, x_up_q (by decide)]; exact e_z94.symm
    have q100 : s96 256 35 = z95 := by rw [e_s96, x_up_q (by decide)]; exact e_z95.symm
    have q101 : s96 273 a.toNat = z94 := by rw [e_s96]; exact x_up_same
    have Ra_s96 : JRc s96 a := by rw [e_s96]; exact JRc.st Ra_s91 (by omega)
    have RC_s96 : RCk s96 s0 a := by rw [e_s96]; exact RCk.st RC_s91
    refine x_A k185_29 (fun _ => rfl) ?_
    refine x_if_le k185_30 (t := 37) rfl (by first | exact x_rbe e_z90 g_z90 rfl rfl | exact x_rb g_z90 rfl rfl | exact ⟨by omega, by omega⟩) (fun c102 => ?_) (fun c102 => ?_)
    · skip
      obtain ⟨n1z, n1a, -, n1d, n1e, n1f, n1g⟩ := n1
      specialize n1a (by omega)
      specialize n1d (by omega)
      specialize n1e (by omega)
      specialize n1g (by omega)
      refine x_A k185_37 (fun _ => rfl) ?_
      refine x_A k185_38 (fun _ => rfl) ?_
      refine x_A k185_39 (fun _ => rfl) ?_
      refine x_ic_ne k185_40 (t := 60) rfl (by first | exact x_rb b_b rfl rfl | exact ⟨by omega, by omega⟩) ⟨by decide, by decide⟩ (fun c103 => ?_) (fun c103 => by exfalso; omega)
      refine x_bipush k185_60 (by decide +kernel) ?_
      refine x_bipush k185_62 (by decide +kernel) ?_
      refine x_bipush k185_64 (by decide +kernel) ?_
      refine x_bipush k185_66 (by decide +kernel) ?_
      refine x_A k185_68 (fun _ => rfl) ?_
      refine x_A k185_69 (fun _ => rfl) ?_
      refine x_callS k185_70 (y := 179) (n := 6) (w0 := 1) (w1 := 6) (as := [vi 119, vi 105, vi 116, vi 104, vi 0, vi 0]) (rest := [.ref 256]) (by decide +kernel) rfl rfl rfl rfl (xe_mono (E_X11_code_c119_c105_c116_c104_c0_c0 s96 hG_s96 119 ⟨by decide, by decide⟩ 105 ⟨by decide, by decide⟩ 116 ⟨by decide, by decide⟩ 104 ⟨by decide, by decide⟩ 0 ⟨by decide, by decide⟩ 0 ⟨by decide, by decide⟩) ?_)
      rintro s105 v ⟨-, t_s105, z104, rfl, b_z104, xp_z104⟩
      rw [t_s105.nil]
      try rw [t_s105.nil] at xp_z104
      show xe none 185 73 [(3, vi z90), (0, .ref 256), (1, vi a), (2, vi b)] [vj z104, .ref 256] s96 0 0 _
      refine x_callV k185_73 (y := 181) (n := 1) (w0 := 0) (w1 := 2) (as := [vj z104]) (rest := []) (by decide +kernel) (q := 256) (nq := 62) (kq := 15) ⟨by decide, rfl⟩ rfl rfl rfl rfl (xe_mono (E_X11_needs_256 s96 hG_s96 z104 b_z104 (by omega) (by omega)) ?_)
      rintro s107 v ⟨hG_s107, t_s107, z106, rfl, g_z106, xp_z106⟩
      have f_s107 : FL [4133, 4136, 4132, 4134, 4135, 5184, 5248] s0 s107 := f_s96.tr t_s107 (by decide +kernel)
      have q108 : s107 256 34 = z1 := (t_s107 256 34 (show 4131 ∉ [4133, 4134, 4135, 4132] from by decide +kernel)).trans q97
      have q109 : s107 256 39 = z94 := (t_s107 256 39 (show 4136 ∉ [4133, 4134, 4135, 4132] from by decide +kernel)).trans q99
      have q110 : s107 273 a.toNat = z94 := (t_s107 273 a.toNat (show 5184 ∉ [4133, 4134, 4135, 4132] from by decide +kernel)).trans q101
      have Ra_s107 : JRc s107 a := JRc.fl Ra_s96 t_s107 (by decide +kernel)
      have RC_s107 : RCk s107 s0 a := RCk.fl RC_s96 t_s107 (by decide +kernel)
      obtain ⟨z111, e_z111⟩ : ∃ z, z = s107 256 36 := ⟨_, rfl⟩
      have g_z111 : (0 : Int) ≤ s107 256 36 ∧ s107 256 36 ≤ 160 := hG_s107 256 36
      obtain ⟨z112, e_z112⟩ : ∃ z, z = s107 256 35 := ⟨_, rfl⟩
      have g_z112 : (-2147483648) ≤ s107 256 35 ∧ s107 256 35 ≤ 2147483647 := hG_s107 256 35
      show xe none 185 76 [(3, vi z90), (0, .ref 256), (1, vi a), (2, vi b)] [vi z106] s107 0 0 _
      have n2 := xp_z106
      clear xp_z106
      rw [show s96 283 = s0 283 from funext fun i => f_s96 283 i (show 5824 ∉ [4133, 4136, 4132, 4134, 4135, 5184, 5248] from by decide +kernel), show s96 256 34 = s0 256 34 from f_s96 256 34 (show 4131 ∉ [4133, 4136, 4132, 4134, 4135, 5184, 5248] from by decide +kernel), show s96 256 36 = te (s0 283) (s0 256 34) (sk (s0 283) (s0 256 34) (s0 256 36)) by omega] at n2
      rw [show sk (s0 283) (s0 256 34) (te (s0 283) (s0 256 34) (sk (s0 283) (s0 256 34) (s0 256 36))) = nx (s0 283) (s0 256 34) (sk (s0 283) (s0 256 34) (s0 256 36)) from rfl] at n2
      have tl2 := te_le (T := s0 283) (n := s0 256 34) (p := nx (s0 283) (s0 256 34) (sk (s0 283) (s0 256 34) (s0 256 36)))
      have sl2 := sk_le (T := s0 283) (n := s0 256 34) (p := te (s0 283) (s0 256 34) (sk (s0 283) (s0 256 34) (s0 256 36)))
      refine x_istore_n k185_76 (ls' := [(3, vi z106), (0, .ref 256), (1, vi a), (2, vi b)]) (by decide) rfl ?_
      refine x_A k185_77 (fun _ => rfl) ?_
      refine x_if_le k185_78 (t := 85) rfl (by first | exact x_rbe e_z106 g_z106 rfl rfl | exact x_rb g_z106 rfl rfl | exact ⟨by omega, by omega⟩) (fun c113 => ?_) (fun c113 => ?_)
      · skip
        obtain ⟨n2o, n2f, n2g⟩ := n2
        have n2p := n2o.resolve_right (fun q => by omega)
        clear n2o
        refine x_A k185_85 (fun _ => rfl) ?_
        refine x_A k185_86 (fun _ => rfl) ?_
        refine x_A k185_87 (fun _ => rfl) ?_
        refine x_A k185_88 (fun _ => rfl) ?_
        refine x_ic_ne k185_89 (t := 96) rfl (by first | exact x_rb b_b rfl rfl | exact ⟨by omega, by omega⟩) ⟨by decide, by decide⟩ (fun c114 => ?_) (fun c114 => by exfalso; omega)
        refine x_bipush k185_96 (by decide +kernel) ?_
        refine x_A k185_98 (fun _ => rfl) ?_
        refine x_A k185_99 (fun _ => rfl) ?_
        refine x_callV k185_100 (y := 180) (n := 4) (w0 := 0) (w1 := 4) (as := [vi 0, vi 39, vi 2, vi 2]) (rest := []) (by decide +kernel) (q := 256) (nq := 62) (kq := 15) ⟨by decide, rfl⟩ rfl rfl rfl rfl (xe_mono (E_X11_readNumber_256 s107 hG_s107 0 ⟨by decide, by decide⟩ 39 ⟨by decide, by decide⟩ 2 ⟨by decide, by decide⟩ 2 ⟨by decide, by decide⟩ (by omega)) ?_)
        rintro s116 v ⟨hG_s116, t_s116, z115, rfl, g_z115, xp_z115⟩
        have f_s116 : FL [4133, 4136, 4132, 4134, 4135, 5184, 5248] s0 s116 := f_s107.tr t_s116 (by decide +kernel)
        have q117 : s116 256 34 = z1 := (t_s116 256 34 (show 4131 ∉ [4133, 4136, 4132] from by decide +kernel)).trans q108
        have q118 : s116 273 a.toNat = z94 := (t_s116 273 a.toNat (show 5184 ∉ [4133, 4136, 4132] from by decide +kernel)).trans q110
        have Ra_s116 : JRc s116 a := JRc.fl Ra_s107 t_s116 (by decide +kernel)
        have RC_s116 : RCk s116 s0 a := RCk.fl RC_s107 t_s116 (by decide +kernel)
        obtain ⟨z119, e_z119⟩ : ∃ z, z = s116 256 36 := ⟨_, rfl⟩
        have g_z119 : (0 : Int) ≤ s116 256 36 ∧ s116 256 36 ≤ 160 := hG_s116 256 36
        obtain ⟨z120, e_z120⟩ : ∃ z, z = s116 256 39 := ⟨_, rfl⟩
        have g_z120 : (0 : Int) ≤ s116 256 39 ∧ s116 256 39 ≤ 1100000 := hG_s116 256 39
        obtain ⟨z121, e_z121⟩ : ∃ z, z = s116 256 35 := ⟨_, rfl⟩
        have g_z121 : (-2147483648) ≤ s116 256 35 ∧ s116 256 35 ≤ 2147483647 := hG_s116 256 35
        show xe none 185 103 [(3, vi z106), (0, .ref 256), (1, vi a), (2, vi b)] [vi z115] s116 0 0 _
        have n3 := xp_z115
        clear xp_z115
        rw [show s107 283 = s0 283 from funext fun i => f_s107 283 i (show 5824 ∉ [4133, 4136, 4132, 4134, 4135, 5184, 5248] from by decide +kernel), show s107 256 34 = s0 256 34 from f_s107 256 34 (show 4131 ∉ [4133, 4136, 4132, 4134, 4135, 5184, 5248] from by decide +kernel), show s107 256 36 = te (s0 283) (s0 256 34) (nx (s0 283) (s0 256 34) (sk (s0 283) (s0 256 34) (s0 256 36))) by omega] at n3
        rw [show sk (s0 283) (s0 256 34) (te (s0 283) (s0 256 34) (nx (s0 283) (s0 256 34) (sk (s0 283) (s0 256 34) (s0 256 36)))) = nx (s0 283) (s0 256 34) (nx (s0 283) (s0 256 34) (sk (s0 283) (s0 256 34) (s0 256 36))) from rfl] at n3
        have tl3 := te_le (T := s0 283) (n := s0 256 34) (p := nx (s0 283) (s0 256 34) (nx (s0 283) (s0 256 34) (sk (s0 283) (s0 256 34) (s0 256 36))))
        have sl3 := sk_le (T := s0 283) (n := s0 256 34) (p := te (s0 283) (s0 256 34) (nx (s0 283) (s0 256 34) (sk (s0 283) (s0 256 34) (s0 256 36))))
        refine x_istore_n k185_103 (ls' := [(3, vi z115), (0, .ref 256), (1, vi a), (2, vi b)]) (by decide) rfl ?_
        refine x_A k185_104 (fun _ => rfl) ?_
        refine x_getR k185_105 (f := 23) rfl (q := 256) (n := 62) (kd := 15) ⟨by decide, rfl⟩ (q2 := 274) (by decide) rfl ?_
        refine x_A k185_108 (fun _ => rfl) ?_
        refine x_A k185_109 (fun _ => rfl) ?_
        refine x_getI k185_110 (f := 39) rfl (q := 256) (n := 62) (kd := 15) ⟨by decide, rfl⟩ (by decide) rfl ?_
        refine x_rw (e_z120.symm) ?_
        refine x_iast k185_113 (q := 274) (n := 72) ⟨by decide, rfl⟩ (by decide) (by first | exact x_rbl b_a rfl rfl | exact ⟨by omega, by omega⟩) ?_
        refine x_nh (fun s122 e_s122 => ?_)
        have hG_s122 : GI s122 := by rw [e_s122]; exact hG_s116.up (show (-2147483648) ≤ z120 ∧ z120 ≤ 2147483647 from (by first | exact x_rbe e_z120 g_z120 rfl rfl | exact x_rb g_z120 rfl rfl | exact ⟨by omega, by omega⟩))
        have f_s122 : FL [4133, 4136, 4132, 4134, 4135, 5184, 5248] s0 s122 := by rw [e_s122]; exact f_s116.up (show 5248 ∈ [4133, 4136, 4132, 4134, 4135, 5184, 5248] from by decide +kernel)
        have q123 : s122 256 34 = z1 := by rw [e_s122, x_up_q (by decide)]; exact q117
        have q124 : s122 256 36 = z119 := by rw [e_s122, x_up_q (by decide)]; exact e_z119.symm
        have q125 : s122 256 39 = z120 := by rw [e_s122, x_up_q (by decide)]; exact e_z120.symm
        have q126 : s122 256 35 = z121 := by rw [e_s122, x_up_q (by decide)]; exact e_z121.symm
        have q127 : s122 273 a.toNat = z94 := by rw [e_s122, x_up_q (by first | decide | omega)]; exact q118
        have q128 : s122 274 a.toNat = z120 := by rw [e_s122]; exact x_up_same
        have Ra_s122 : JRc s122 a := by rw [e_s122]; exact JRc.up Ra_s116 (show 5248 ∉ [5120, 5184] from by decide +kernel)
        have RC_s122 : RCk s122 s0 a := by rw [e_s122]; exact RCk.st RC_s116
        refine x_A k185_114 (fun _ => rfl) ?_
        exact x_iret k185_115 rfl ⟨hG_s122, f_s122, z115, rfl, (by first | exact x_rbe e_z115 g_z115 rfl rfl | exact x_rb g_z115 rfl rfl | exact ⟨by omega, by omega⟩), (by rw [show b + 1 = 4 by omega]; have e1 := f1_4 (T := s0 283) (n := s0 256 34) (p := sk (s0 283) (s0 256 34) (s0 256 36)) (R := s0 256 17); have s1 := s2_4 (s0 283) (s0 256 34) (nx (s0 283) (s0 256 34) (sk (s0 283) (s0 256 34) (s0 256 36))); have r1 := rs_n (T := s0 283) (n := s0 256 34) (p := sk (s0 283) (s0 256 34) (s0 256 36)) (k := 4) (R := s0 256 17) (by omega); have s1 := s1.1 (by omega); exact ⟨by rw [r1.1, s1.1]; exact n3.1, fun w => by have n3c := n3.2.2.1 w; clear n3; omega, fun w => (by have n3a := n3.2.1 w; have n3d := n3.2.2.2.1 w; have n3f := n3.2.2.2.2.2; clear n3; exact ⟨by rw [show s122 256 36 = te (s0 283) (s0 256 34) (nx (s0 283) (s0 256 34) (nx (s0 283) (s0 256 34) (sk (s0 283) (s0 256 34) (s0 256 36)))) by omega]; exact s1.2.2.2.symm, by omega, by omega, by omega, by omega, by omega⟩)⟩), Ra_s122, RC_s122⟩
      · skip
        obtain ⟨n2o, n2f, n2g⟩ := n2
        have n2p := n2o.resolve_left (fun q => by omega)
        clear n2o
        refine x_A k185_81 (fun _ => rfl) ?_
        refine x_goto k185_82 (t := 103) rfl ?_
        refine x_istore_n k185_103 (ls' := [(3, vi z106), (0, .ref 256), (1, vi a), (2, vi b)]) (by decide) rfl ?_
        refine x_A k185_104 (fun _ => rfl) ?_
        refine x_getR k185_105 (f := 23) rfl (q := 256) (n := 62) (kd := 15) ⟨by decide, rfl⟩ (q2 := 274) (by decide) rfl ?_
        refine x_A k185_108 (fun _ => rfl) ?_
        refine x_A k185_109 (fun _ => rfl) ?_
        refine x_getI k185_110 (f := 39) rfl (q := 256) (n := 62) (kd := 15) ⟨by decide, rfl⟩ (by decide) rfl ?_
        refine x_rw (q109) ?_
        refine x_iast k185_113 (q := 274) (n := 72) ⟨by decide, rfl⟩ (by decide) (by first | exact x_rbl b_a rfl rfl | exact ⟨by omega, by omega⟩) ?_
        refine x_nh (fun s129 e_s129 => ?_)
        have hG_s129 : GI s129 := by rw [e_s129]; exact hG_s107.up (show (-2147483648) ≤ z94 ∧ z94 ≤ 2147483647 from (by first | exact x_rbe e_z94 g_z94 rfl rfl | exact x_rb g_z94 rfl rfl | exact ⟨by omega, by omega⟩))
        have f_s129 : FL [4133, 4136, 4132, 4134, 4135, 5184, 5248] s0 s129 := by rw [e_s129]; exact f_s107.up (show 5248 ∈ [4133, 4136, 4132, 4134, 4135, 5184, 5248] from by decide +kernel)
        have q130 : s129 256 34 = z1 := by rw [e_s129, x_up_q (by decide)]; exact q108
        have q131 : s129 256 39 = z94 := by rw [e_s129, x_up_q (by decide)]; exact q109
        have q132 : s129 256 36 = z111 := by rw [e_s129, x_up_q (by decide)]; exact e_z111.symm
        have q133 : s129 256 35 = z112 := by rw [e_s129, x_up_q (by decide)]; exact e_z112.symm
        have q134 : s129 273 a.toNat = z94 := by rw [e_s129, x_up_q (by first | decide | omega)]; exact q110
        have q135 : s129 274 a.toNat = z94 := by rw [e_s129]; exact x_up_same
        have Ra_s129 : JRc s129 a := by rw [e_s129]; exact JRc.up Ra_s107 (show 5248 ∉ [5120, 5184] from by decide +kernel)
        have RC_s129 : RCk s129 s0 a := by rw [e_s129]; exact RCk.st RC_s107
        refine x_A k185_114 (fun _ => rfl) ?_
        exact x_iret k185_115 rfl ⟨hG_s129, f_s129, z106, rfl, (by first | exact x_rbe e_z106 g_z106 rfl rfl | exact x_rb g_z106 rfl rfl | exact ⟨by omega, by omega⟩), (by rw [show b + 1 = 4 by omega]; have e1 := f1_4 (T := s0 283) (n := s0 256 34) (p := sk (s0 283) (s0 256 34) (s0 256 36)) (R := s0 256 17); have s1 := s2_4 (s0 283) (s0 256 34) (nx (s0 283) (s0 256 34) (sk (s0 283) (s0 256 34) (s0 256 36))); have r1 := rs_n (T := s0 283) (n := s0 256 34) (p := sk (s0 283) (s0 256 34) (s0 256 36)) (k := 4) (R := s0 256 17) (by omega); have s1 := s1.2 (by omega); exact ⟨by omega, fun w => by omega, fun w => by omega⟩), Ra_s129, RC_s129⟩
    · skip
      obtain ⟨n1z, -, n1c, -, -, n1f, n1g⟩ := n1
      specialize n1c (by omega)
      specialize n1g (by omega)
      refine x_A k185_33 (fun _ => rfl) ?_
      refine x_goto k185_34 (t := 76) rfl ?_
      refine x_istore_n k185_76 (ls' := [(3, vi z90), (0, .ref 256), (1, vi a), (2, vi b)]) (by decide) rfl ?_
      refine x_A k185_77 (fun _ => rfl) ?_
      refine x_if_le k185_78 (t := 85) rfl (by first | exact x_rbe e_z90 g_z90 rfl rfl | exact x_rb g_z90 rfl rfl | exact ⟨by omega, by omega⟩) (fun c136 => by exfalso; omega) (fun c136 => ?_)
      refine x_A k185_81 (fun _ => rfl) ?_
      refine x_goto k185_82 (t := 103) rfl ?_
      refine x_istore_n k185_103 (ls' := [(3, vi z90), (0, .ref 256), (1, vi a), (2, vi b)]) (by decide) rfl ?_
      refine x_A k185_104 (fun _ => rfl) ?_
      refine x_getR k185_105 (f := 23) rfl (q := 256) (n := 62) (kd := 15) ⟨by decide, rfl⟩ (q2 := 274) (by decide) rfl ?_
      refine x_A k185_108 (fun _ => rfl) ?_
      refine x_A k185_109 (fun _ => rfl) ?_
      refine x_getI k185_110 (f := 39) rfl (q := 256) (n := 62) (kd := 15) ⟨by decide, rfl⟩ (by decide) rfl ?_
      refine x_rw (q99) ?_
      refine x_iast k185_113 (q := 274) (n := 72) ⟨by decide, rfl⟩ (by decide) (by first | exact x_rbl b_a rfl rfl | exact ⟨by omega, by omega⟩) ?_
      refine x_nh (fun s137 e_s137 => ?_)
      have hG_s137 : GI s137 := by rw [e_s137]; exact hG_s96.up (show (-2147483648) ≤ z94 ∧ z94 ≤ 2147483647 from (by first | exact x_rbe e_z94 g_z94 rfl rfl | exact x_rb g_z94 rfl rfl | exact ⟨by omega, by omega⟩))
      have f_s137 : FL [4133, 4136, 4132, 4134, 4135, 5184, 5248] s0 s137 := by rw [e_s137]; exact f_s96.up (show 5248 ∈ [4133, 4136, 4132, 4134, 4135, 5184, 5248] from by decide +kernel)
      have q138 : s137 256 34 = z1 := by rw [e_s137, x_up_q (by decide)]; exact q97
      have q139 : s137 256 36 = z93 := by rw [e_s137, x_up_q (by decide)]; exact q98
      have q140 : s137 256 39 = z94 := by rw [e_s137, x_up_q (by decide)]; exact q99
      have q141 : s137 256 35 = z95 := by rw [e_s137, x_up_q (by decide)]; exact q100
      have q142 : s137 273 a.toNat = z94 := by rw [e_s137, x_up_q (by first | decide | omega)]; exact q101
      have q143 : s137 274 a.toNat = z94 := by rw [e_s137]; exact x_up_same
      have Ra_s137 : JRc s137 a := by rw [e_s137]; exact JRc.up Ra_s96 (show 5248 ∉ [5120, 5184] from by decide +kernel)
      have RC_s137 : RCk s137 s0 a := by rw [e_s137]; exact RCk.st RC_s96
      refine x_A k185_114 (fun _ => rfl) ?_
      exact x_iret k185_115 rfl ⟨hG_s137, f_s137, z90, rfl, (by first | exact x_rbe e_z90 g_z90 rfl rfl | exact x_rb g_z90 rfl rfl | exact ⟨by omega, by omega⟩), (by rw [show b + 1 = 4 by omega]; have e1 := f1_4 (T := s0 283) (n := s0 256 34) (p := sk (s0 283) (s0 256 34) (s0 256 36)) (R := s0 256 17); have s1 := s2_4 (s0 283) (s0 256 34) (nx (s0 283) (s0 256 34) (sk (s0 283) (s0 256 34) (s0 256 36))); have r1 := rs_y (T := s0 283) (n := s0 256 34) (p := sk (s0 283) (s0 256 34) (s0 256 36)) (k := 4) (R := s0 256 17) (by omega); clear s1; exact ⟨by omega, fun w => by omega, fun w => by omega⟩), Ra_s137, RC_s137⟩
