set_option maxHeartbeats 8000000 in
theorem E_X11_readClause_256 (s0 : xS) (hG0 : GI s0) (a : Int) (b_a : 0 ≤ a ∧ a ≤ 71) (b : Int) (b_b : 0 ≤ b ∧ b ≤ 1) (pa2 : s0 256 36 ≤ s0 256 34) (i0_Ra : JRc s0 a) (i0_RC : RCk s0 s0 a) : xe none 186 0 (lv_args 0 [.ref 256, vi a, vi b]) [] s0 0 0 (fun s' v => GI s' ∧ FL [4133, 4136, 4132, 4134, 4135, 5120, 5184, 5248] s0 s' ∧ ∃ z, v = some (vi z) ∧ (0 ≤ z ∧ z ≤ 5) ∧ (ClR s0 s' a b z ∧ ((b = 1 → z ≠ 0) ∧ (z = 0 → JRc s' (a + 1)))) ∧ JRc s' a ∧ RCk s' s0 a) := by
  have f0 : FL [4133, 4136, 4132, 4134, 4135, 5120, 5184, 5248] s0 s0 := FL.rf
  show xe none 186 0 [(0, .ref 256), (1, vi a), (2, vi b)] [] s0 0 0 _
  have slA := (sk_le (T := s0 283) (n := s0 256 34) (p := s0 256 36)).1
  have slB := (sk_le (T := s0 283) (n := s0 256 34) (p := s0 256 36)).2 pa2
  have tlA := (te_le (T := s0 283) (n := s0 256 34) (p := sk (s0 283) (s0 256 34) (s0 256 36))).1
  have tlB := (te_le (T := s0 283) (n := s0 256 34) (p := sk (s0 283) (s0 256 34) (s0 256 36))).2.1 slB
  obtain ⟨z1, e_z1⟩ : ∃ z, z = s0 256 34 := ⟨_, rfl⟩
  have g_z1 : (0 : Int) ≤ s0 256 34 ∧ s0 256 34 ≤ 160 := hG0 256 34
  obtain ⟨z2, e_z2⟩ : ∃ z, z = s0 256 35 := ⟨_, rfl⟩
  have g_z2 : (-2147483648) ≤ s0 256 35 ∧ s0 256 35 ≤ 2147483647 := hG0 256 35
  obtain ⟨z3, e_z3⟩ : ∃ z, z = s0 256 17 := ⟨_, rfl⟩
  have g_z3 : (0 : Int) ≤ s0 256 17 ∧ s0 256 17 ≤ 8 := hG0 256 17
  refine x_A k186_0 (fun _ => rfl) ?_
  refine x_callV k186_1 (y := 178) (n := 0) (w0 := 0) (w1 := 0) (as := []) (rest := []) (by decide +kernel) (q := 256) (nq := 62) (kq := 15) ⟨by decide, rfl⟩ rfl rfl rfl rfl (xe_mono (E_X11_readWord_256 s0 hG0 (by omega)) ?_)
  rintro s5 v ⟨hG_s5, t_s5, rfl, xp_z4⟩
  have f_s5 : FL [4133, 4136, 4132, 4134, 4135, 5120, 5184, 5248] s0 s5 := f0.tr t_s5 (by decide +kernel)
  have q6 : s5 256 34 = z1 := (t_s5 256 34 (show 4131 ∉ [4133, 4134, 4135] from by decide +kernel)).trans e_z1.symm
  have q7 : s5 256 35 = z2 := (t_s5 256 35 (show 4132 ∉ [4133, 4134, 4135] from by decide +kernel)).trans e_z2.symm
  have q8 : s5 256 17 = z3 := (t_s5 256 17 (show 4114 ∉ [4133, 4134, 4135] from by decide +kernel)).trans e_z3.symm
  have Ra_s5 : JRc s5 a := JRc.fl i0_Ra t_s5 (by decide +kernel)
  have RC_s5 : RCk s5 s0 a := RCk.fl i0_RC t_s5 (by decide +kernel)
  obtain ⟨z9, e_z9⟩ : ∃ z, z = s5 256 36 := ⟨_, rfl⟩
  have g_z9 : (0 : Int) ≤ s5 256 36 ∧ s5 256 36 ≤ 160 := hG_s5 256 36
  obtain ⟨z10, e_z10⟩ : ∃ z, z = s5 256 38 := ⟨_, rfl⟩
  have g_z10 : (0 : Int) ≤ s5 256 38 ∧ s5 256 38 ≤ 160 := hG_s5 256 38
  show xe none 186 4 [(0, .ref 256), (1, vi a), (2, vi b)] [] s5 0 0 _
  obtain ⟨v0a, v0b, v0c, v0d, v0e, v0f, -⟩ := xp_z4
  specialize v0e (by omega)
  refine x_A k186_4 (fun _ => rfl) ?_
  refine x_callV k186_5 (y := 183) (n := 0) (w0 := 0) (w1 := 0) (as := []) (rest := []) (by decide +kernel) (q := 256) (nq := 62) (kq := 15) ⟨by decide, rfl⟩ rfl rfl rfl rfl (xe_mono (E_X11_keyOf_256 s5 hG_s5) ?_)
  rintro s12 v ⟨-, t_s12, z11, rfl, g_z11, xp_z11⟩
  rw [t_s12.nil]
  try rw [t_s12.nil] at xp_z11
  show xe none 186 8 [(0, .ref 256), (1, vi a), (2, vi b)] [vi z11] s5 0 0 _
  have kr : (z11 = -1 ∧ kwd (s0 283) (s0 256 34) (sk (s0 283) (s0 256 34) (s0 256 36)) = -1) ∨ (0 ≤ z11 ∧ z11 ≤ 5 ∧ kwd (s0 283) (s0 256 34) (sk (s0 283) (s0 256 34) (s0 256 36)) = z11 + 1 ∧ te (s0 283) (s0 256 34) (sk (s0 283) (s0 256 34) (s0 256 36)) = rn (s0 283) (s0 256 34) 97 122 (sk (s0 283) (s0 256 34) (s0 256 36))) := by
    have k0 : (z11 = -1 ∧ kwd (s0 283) (s0 256 34) (sk (s0 283) (s0 256 34) (s0 256 36)) = -1) ∨ (0 ≤ z11 ∧ z11 + 1 = kwd (s0 283) (s0 256 34) (sk (s0 283) (s0 256 34) (s0 256 36))) := by have q := xp_z11; rw [v0c] at q; exact q
    have kc := kwd_cs (s0 283) (s0 256 34) (sk (s0 283) (s0 256 34) (s0 256 36))
    clear xp_z11
    by_cases q : wv (s0 283) (s0 256 34) (sk (s0 283) (s0 256 34) (s0 256 36)) = 0
    · omega
    · have wk := (wv_kd q).2
      omega
  clear xp_z11
  have tl1A := (te_le (T := s0 283) (n := s0 256 34) (p := nx (s0 283) (s0 256 34) (sk (s0 283) (s0 256 34) (s0 256 36)))).1
  have sl1A : te (s0 283) (s0 256 34) (sk (s0 283) (s0 256 34) (s0 256 36)) ≤ nx (s0 283) (s0 256 34) (sk (s0 283) (s0 256 34) (s0 256 36)) := (sk_le (T := s0 283) (n := s0 256 34) (p := te (s0 283) (s0 256 34) (sk (s0 283) (s0 256 34) (s0 256 36)))).1
  have sl1B : nx (s0 283) (s0 256 34) (sk (s0 283) (s0 256 34) (s0 256 36)) ≤ s0 256 34 := (sk_le (T := s0 283) (n := s0 256 34) (p := te (s0 283) (s0 256 34) (sk (s0 283) (s0 256 34) (s0 256 36)))).2 tlB
  have tl1B := (te_le (T := s0 283) (n := s0 256 34) (p := nx (s0 283) (s0 256 34) (sk (s0 283) (s0 256 34) (s0 256 36)))).2.1 sl1B
  refine x_istore_n k186_8 (ls' := [(3, vi z11), (0, .ref 256), (1, vi a), (2, vi b)]) (by decide) rfl ?_
  refine x_A k186_9 (fun _ => rfl) ?_
  refine x_if_lt k186_10 (t := 17) rfl (by first | exact x_rbe e_z11 g_z11 rfl rfl | exact x_rb g_z11 rfl rfl | exact ⟨by omega, by omega⟩) (fun c13 => ?_) (fun c13 => ?_)
  · skip
    have kz := kr.resolve_right (fun q => by omega)
    clear kr
    refine x_A k186_17 (fun _ => rfl) ?_
    refine x_A k186_18 (fun _ => rfl) ?_
    refine x_if_ge k186_19 (t := 26) rfl (by first | exact x_rbe e_z11 g_z11 rfl rfl | exact x_rb g_z11 rfl rfl | exact ⟨by omega, by omega⟩) (fun c14 => by exfalso; omega) (fun c14 => ?_)
    refine x_A k186_22 (fun _ => rfl) ?_
    refine x_goto k186_23 (t := 27) rfl ?_
    refine x_A k186_27 (fun _ => rfl) ?_
    refine x_getI k186_28 (f := 36) rfl (q := 256) (n := 62) (kd := 15) ⟨by decide, rfl⟩ (by decide) rfl ?_
    refine x_rw (e_z9.symm) ?_
    refine x_callV k186_31 (y := 177) (n := 2) (w0 := 0) (w1 := 2) (as := [vi 1, vi z9]) (rest := []) (by decide +kernel) (q := 256) (nq := 62) (kq := 15) ⟨by decide, rfl⟩ rfl rfl rfl rfl (xe_mono (E_X11_fails_256 s5 hG_s5 1 ⟨by decide, by decide⟩ z9 (by first | exact x_rbe e_z9 g_z9 rfl rfl | exact x_rb g_z9 rfl rfl | exact ⟨by omega, by omega⟩)) ?_)
    rintro s16 v ⟨hG_s16, t_s16, z15, rfl, g_z15, xp_z15⟩
    have f_s16 : FL [4133, 4136, 4132, 4134, 4135, 5120, 5184, 5248] s0 s16 := f_s5.tr t_s16 (by decide +kernel)
    have q17 : s16 256 34 = z1 := (t_s16 256 34 (show 4131 ∉ [4132] from by decide +kernel)).trans q6
    have q18 : s16 256 17 = z3 := (t_s16 256 17 (show 4114 ∉ [4132] from by decide +kernel)).trans q8
    have q19 : s16 256 36 = z9 := (t_s16 256 36 (show 4133 ∉ [4132] from by decide +kernel)).trans e_z9.symm
    have q20 : s16 256 38 = z10 := (t_s16 256 38 (show 4135 ∉ [4132] from by decide +kernel)).trans e_z10.symm
    have Ra_s16 : JRc s16 a := JRc.fl Ra_s5 t_s16 (by decide +kernel)
    have RC_s16 : RCk s16 s0 a := RCk.fl RC_s5 t_s16 (by decide +kernel)
    obtain ⟨z21, e_z21⟩ : ∃ z, z = s16 256 35 := ⟨_, rfl⟩
    have g_z21 : (-2147483648) ≤ s16 256 35 ∧ s16 256 35 ≤ 2147483647 := hG_s16 256 35
    show xe none 186 34 [(3, vi z11), (0, .ref 256), (1, vi a), (2, vi b)] [vi z15] s16 0 0 _
    exact x_iret k186_34 rfl ⟨hG_s16, f_s16, z15, rfl, (by first | exact x_rbe e_z15 g_z15 rfl rfl | exact x_rb g_z15 rfl rfl | exact ⟨by omega, by omega⟩), ⟨(by unfold ClR; have c1 := cl_k (T := s0 283) (n := s0 256 34) (i := 8 * b) (R := s0 256 17) kz.2; exact ⟨by omega, fun w => by omega, fun w => by omega⟩), ⟨fun hb => by omega, fun hz => by exfalso; omega⟩⟩, Ra_s16, RC_s16⟩
  · skip
    have kz := kr.resolve_left (fun q => by omega)
    clear kr
    refine x_A k186_13 (fun _ => rfl) ?_
    refine x_if_eq k186_14 (t := 35) rfl (by first | exact x_rb b_b rfl rfl | exact ⟨by omega, by omega⟩) (fun c22 => ?_) (fun c22 => ?_)
    · skip
      refine x_A k186_35 (fun _ => rfl) ?_
      refine x_A k186_36 (fun _ => rfl) ?_
      refine x_getI k186_37 (f := 38) rfl (q := 256) (n := 62) (kd := 15) ⟨by decide, rfl⟩ (by decide) rfl ?_
      refine x_rw (e_z10.symm) ?_
      refine x_putI k186_40 (f := 36) rfl (q := 256) (n := 62) (kd := 15) ⟨by decide, rfl⟩ rfl rfl rfl ?_
      refine x_nh (fun s23 e_s23 => ?_)
      have hG_s23 : GI s23 := by rw [e_s23]; exact hG_s5.up (show 0 ≤ z10 ∧ z10 ≤ 160 from (by first | exact x_rbe e_z10 g_z10 rfl rfl | exact x_rb g_z10 rfl rfl | exact ⟨by omega, by omega⟩))
      have f_s23 : FL [4133, 4136, 4132, 4134, 4135, 5120, 5184, 5248] s0 s23 := by rw [e_s23]; exact f_s5.up (show 4133 ∈ [4133, 4136, 4132, 4134, 4135, 5120, 5184, 5248] from by decide +kernel)
      have q24 : s23 256 34 = z1 := by rw [e_s23, x_up_i (by decide)]; exact q6
      have q25 : s23 256 35 = z2 := by rw [e_s23, x_up_i (by decide)]; exact q7
      have q26 : s23 256 17 = z3 := by rw [e_s23, x_up_i (by decide)]; exact q8
      have q27 : s23 256 38 = z10 := by rw [e_s23, x_up_i (by decide)]; exact e_z10.symm
      have q28 : s23 256 36 = z10 := by rw [e_s23]; exact x_up_same
      have Ra_s23 : JRc s23 a := by rw [e_s23]; exact JRc.up Ra_s5 (show 4133 ∉ [5120, 5184] from by decide +kernel)
      have RC_s23 : RCk s23 s0 a := by rw [e_s23]; exact RCk.up RC_s5 (show 4133 ∉ LRC from by decide)
      have p1 : s23 256 36 = te (s0 283) (s0 256 34) (sk (s0 283) (s0 256 34) (s0 256 36)) := by omega
      refine x_A k186_43 (fun _ => rfl) ?_
      refine x_istore k186_44 (ls' := [(4, vi 0), (3, vi z11), (0, .ref 256), (1, vi a), (2, vi b)]) (by decide) rfl ?_
      refine x_A k186_46 (fun _ => rfl) ?_
      refine x_if_ne k186_47 (t := 60) rfl (by first | exact x_rbe e_z11 g_z11 rfl rfl | exact x_rb g_z11 rfl rfl | exact ⟨by omega, by omega⟩) (fun c29 => ?_) (fun c29 => ?_)
      · skip
        refine x_A k186_60 (fun _ => rfl) ?_
        refine x_A k186_61 (fun _ => rfl) ?_
        refine x_ic_ge k186_62 (t := 76) rfl (by first | exact x_rbe e_z11 g_z11 rfl rfl | exact x_rb g_z11 rfl rfl | exact ⟨by omega, by omega⟩) ⟨by decide, by decide⟩ (fun c30 => ?_) (fun c30 => ?_)
        · skip
          refine x_A k186_76 (fun _ => rfl) ?_
          refine x_A k186_77 (fun _ => rfl) ?_
          refine x_ic_ne k186_78 (t := 93) rfl (by first | exact x_rbe e_z11 g_z11 rfl rfl | exact x_rb g_z11 rfl rfl | exact ⟨by omega, by omega⟩) ⟨by decide, by decide⟩ (fun c31 => ?_) (fun c31 => ?_)
          · skip
            refine x_A k186_93 (fun _ => rfl) ?_
            refine x_A k186_94 (fun _ => rfl) ?_
            refine x_A k186_95 (fun _ => rfl) ?_
            refine x_getI k186_96 (f := 17) rfl (q := 256) (n := 62) (kd := 15) ⟨by decide, rfl⟩ (by decide) rfl ?_
            refine x_rw (q26) ?_
            refine x_A k186_99 (fun _ => rfl) ?_
            refine x_isub k186_100 ?_
            refine x_top (fun z32 e_z32 => ?_)
            refine x_A k186_101 (fun _ => rfl) ?_
            refine x_A k186_102 (fun _ => rfl) ?_
            refine x_callV k186_103 (y := 180) (n := 4) (w0 := 0) (w1 := 4) (as := [vi 0, vi z32, vi 2, vi 3]) (rest := []) (by decide +kernel) (q := 256) (nq := 62) (kq := 15) ⟨by decide, rfl⟩ rfl rfl rfl rfl (xe_mono (E_X11_readNumber_256 s23 hG_s23 0 ⟨by decide, by decide⟩ z32 (by first | exact x_rbe e_z32 g_z32 rfl rfl | exact x_rb g_z32 rfl rfl | exact ⟨by omega, by omega⟩) 2 ⟨by decide, by decide⟩ 3 ⟨by decide, by decide⟩ (by omega)) ?_)
            rintro s34 v ⟨hG_s34, t_s34, z33, rfl, g_z33, xp_z33⟩
            have f_s34 : FL [4133, 4136, 4132, 4134, 4135, 5120, 5184, 5248] s0 s34 := f_s23.tr t_s34 (by decide +kernel)
            have q35 : s34 256 34 = z1 := (t_s34 256 34 (show 4131 ∉ [4133, 4136, 4132] from by decide +kernel)).trans q24
            have q36 : s34 256 17 = z3 := (t_s34 256 17 (show 4114 ∉ [4133, 4136, 4132] from by decide +kernel)).trans q26
            have q37 : s34 256 38 = z10 := (t_s34 256 38 (show 4135 ∉ [4133, 4136, 4132] from by decide +kernel)).trans q27
            have Ra_s34 : JRc s34 a := JRc.fl Ra_s23 t_s34 (by decide +kernel)
            have RC_s34 : RCk s34 s0 a := RCk.fl RC_s23 t_s34 (by decide +kernel)
            obtain ⟨z38, e_z38⟩ : ∃ z, z = s34 256 36 := ⟨_, rfl⟩
            have g_z38 : (0 : Int) ≤ s34 256 36 ∧ s34 256 36 ≤ 160 := hG_s34 256 36
            obtain ⟨z39, e_z39⟩ : ∃ z, z = s34 256 39 := ⟨_, rfl⟩
            have g_z39 : (0 : Int) ≤ s34 256 39 ∧ s34 256 39 ≤ 1100000 := hG_s34 256 39
            obtain ⟨z40, e_z40⟩ : ∃ z, z = s34 256 35 := ⟨_, rfl⟩
            have g_z40 : (-2147483648) ≤ s34 256 35 ∧ s34 256 35 ≤ 2147483647 := hG_s34 256 35
            show xe none 186 106 [(4, vi 0), (3, vi z11), (0, .ref 256), (1, vi a), (2, vi b)] [vi z33] s34 0 0 _
            have n1 := xp_z33
            clear xp_z33
            rw [show s23 283 = s0 283 from funext fun i => f_s23 283 i (show 5824 ∉ [4133, 4136, 4132, 4134, 4135, 5120, 5184, 5248] from by decide +kernel), show s23 256 34 = s0 256 34 from f_s23 256 34 (show 4131 ∉ [4133, 4136, 4132, 4134, 4135, 5120, 5184, 5248] from by decide +kernel), show s23 256 36 = te (s0 283) (s0 256 34) (sk (s0 283) (s0 256 34) (s0 256 36)) by omega] at n1
            rw [show sk (s0 283) (s0 256 34) (te (s0 283) (s0 256 34) (sk (s0 283) (s0 256 34) (s0 256 36))) = nx (s0 283) (s0 256 34) (sk (s0 283) (s0 256 34) (s0 256 36)) from rfl] at n1
            refine x_istore k186_106 (ls' := [(4, vi z33), (3, vi z11), (0, .ref 256), (1, vi a), (2, vi b)]) (by decide) rfl ?_
            refine x_A k186_108 (fun _ => rfl) ?_
            refine x_getR k186_109 (f := 22) rfl (q := 256) (n := 62) (kd := 15) ⟨by decide, rfl⟩ (q2 := 273) (by decide) rfl ?_
            refine x_A k186_112 (fun _ => rfl) ?_
            refine x_A k186_113 (fun _ => rfl) ?_
            refine x_getI k186_114 (f := 39) rfl (q := 256) (n := 62) (kd := 15) ⟨by decide, rfl⟩ (by decide) rfl ?_
            refine x_rw (e_z39.symm) ?_
            refine x_iast k186_117 (q := 273) (n := 72) ⟨by decide, rfl⟩ (by decide) (by first | exact x_rbl b_a rfl rfl | exact ⟨by omega, by omega⟩) ?_
            refine x_nh (fun s41 e_s41 => ?_)
            have hG_s41 : GI s41 := by rw [e_s41]; exact hG_s34.up (show (-2147483648) ≤ z39 ∧ z39 ≤ 2147483647 from (by first | exact x_rbe e_z39 g_z39 rfl rfl | exact x_rb g_z39 rfl rfl | exact ⟨by omega, by omega⟩))
            have f_s41 : FL [4133, 4136, 4132, 4134, 4135, 5120, 5184, 5248] s0 s41 := by rw [e_s41]; exact f_s34.up (show 5184 ∈ [4133, 4136, 4132, 4134, 4135, 5120, 5184, 5248] from by decide +kernel)
            have q42 : s41 256 34 = z1 := by rw [e_s41, x_up_q (by decide)]; exact q35
            have q43 : s41 256 17 = z3 := by rw [e_s41, x_up_q (by decide)]; exact q36
            have q44 : s41 256 38 = z10 := by rw [e_s41, x_up_q (by decide)]; exact q37
            have q45 : s41 256 36 = z38 := by rw [e_s41, x_up_q (by decide)]; exact e_z38.symm
            have q46 : s41 256 39 = z39 := by rw [e_s41, x_up_q (by decide)]; exact e_z39.symm
            have q47 : s41 256 35 = z40 := by rw [e_s41, x_up_q (by decide)]; exact e_z40.symm
            have q48 : s41 273 a.toNat = z39 := by rw [e_s41]; exact x_up_same
            have Ra_s41 : JRc s41 a := by rw [e_s41]; exact JRc.st Ra_s34 (by omega)
            have RC_s41 : RCk s41 s0 a := by rw [e_s41]; exact RCk.st RC_s34
            refine x_A k186_118 (fun _ => rfl) ?_
            refine x_getR k186_119 (f := 23) rfl (q := 256) (n := 62) (kd := 15) ⟨by decide, rfl⟩ (q2 := 274) (by decide) rfl ?_
            refine x_A k186_122 (fun _ => rfl) ?_
            refine x_A k186_123 (fun _ => rfl) ?_
            refine x_iast k186_124 (q := 274) (n := 72) ⟨by decide, rfl⟩ (by decide) (by first | exact x_rbl b_a rfl rfl | exact ⟨by omega, by omega⟩) ?_
            refine x_nh (fun s49 e_s49 => ?_)
            have hG_s49 : GI s49 := by rw [e_s49]; exact hG_s41.up (show (-2147483648) ≤ 0 ∧ 0 ≤ 2147483647 from ⟨by decide, by decide⟩)
            have f_s49 : FL [4133, 4136, 4132, 4134, 4135, 5120, 5184, 5248] s0 s49 := by rw [e_s49]; exact f_s41.up (show 5248 ∈ [4133, 4136, 4132, 4134, 4135, 5120, 5184, 5248] from by decide +kernel)
            have q50 : s49 256 34 = z1 := by rw [e_s49, x_up_q (by decide)]; exact q42
            have q51 : s49 256 17 = z3 := by rw [e_s49, x_up_q (by decide)]; exact q43
            have q52 : s49 256 38 = z10 := by rw [e_s49, x_up_q (by decide)]; exact q44
            have q53 : s49 256 36 = z38 := by rw [e_s49, x_up_q (by decide)]; exact q45
            have q54 : s49 256 39 = z39 := by rw [e_s49, x_up_q (by decide)]; exact q46
            have q55 : s49 256 35 = z40 := by rw [e_s49, x_up_q (by decide)]; exact q47
            have q56 : s49 273 a.toNat = z39 := by rw [e_s49, x_up_q (by first | decide | omega)]; exact q48
            have q57 : s49 274 a.toNat = 0 := by rw [e_s49]; exact x_up_same
            have Ra_s49 : JRc s49 a := by rw [e_s49]; exact JRc.up Ra_s41 (show 5248 ∉ [5120, 5184] from by decide +kernel)
            have RC_s49 : RCk s49 s0 a := by rw [e_s49]; exact RCk.st RC_s41
            have kk : kwd (s0 283) (s0 256 34) (sk (s0 283) (s0 256 34) (s0 256 36)) = 6 := by omega
            have fz : z33 = f1f (s0 283) (s0 256 34) (nx (s0 283) (s0 256 34) (sk (s0 283) (s0 256 34) (s0 256 36))) (kwd (s0 283) (s0 256 34) (sk (s0 283) (s0 256 34) (s0 256 36))) (s0 256 17) := by rw [kk, f1_6', ← show z32 = s0 256 17 - 1 by omega]; omega
            have F := RsQ.n5 (s' := s49) (T := s0 283) (n := s0 256 34) (p := sk (s0 283) (s0 256 34) (s0 256 36)) (R := s0 256 17) (a := a) (z := z33) (g0 := s0 256 35) (by omega) fz (fun w => by have n1c := n1.2.2.1 w; clear n1; omega) (fun w => by have n1a := n1.2.1 w; have n1d := n1.2.2.2.1 w; have n1f := n1.2.2.2.2.2; clear n1; exact ⟨by omega, by omega, by omega, by omega, by omega⟩)
            clear n1 fz
            refine x_A k186_125 (fun _ => rfl) ?_
            refine x_if_le k186_127 (t := 133) rfl (by first | exact x_rbe e_z33 g_z33 rfl rfl | exact x_rb g_z33 rfl rfl | exact ⟨by omega, by omega⟩) (fun c58 => ?_) (fun c58 => ?_)
            · skip
              refine x_A k186_133 (fun _ => rfl) ?_
              have F0 := F.2.2 (by omega)
              refine x_callV k186_134 (y := 176) (n := 0) (w0 := 0) (w1 := 0) (as := []) (rest := []) (by decide +kernel) (q := 256) (nq := 62) (kq := 15) ⟨by decide, rfl⟩ rfl rfl rfl rfl (xe_mono (E_X11_here_256 s49 hG_s49 (by omega)) ?_)
              rintro s62 v ⟨hG_s62, t_s62, z61, rfl, g_z61, xp_z61⟩
              have f_s62 : FL [4133, 4136, 4132, 4134, 4135, 5120, 5184, 5248] s0 s62 := f_s49.tr t_s62 (by decide +kernel)
              have q63 : s62 256 34 = z1 := (t_s62 256 34 (show 4131 ∉ [4133] from by decide +kernel)).trans q50
              have q64 : s62 256 17 = z3 := (t_s62 256 17 (show 4114 ∉ [4133] from by decide +kernel)).trans q51
              have q65 : s62 256 38 = z10 := (t_s62 256 38 (show 4135 ∉ [4133] from by decide +kernel)).trans q52
              have q66 : s62 256 39 = z39 := (t_s62 256 39 (show 4136 ∉ [4133] from by decide +kernel)).trans q54
              have q67 : s62 256 35 = z40 := (t_s62 256 35 (show 4132 ∉ [4133] from by decide +kernel)).trans q55
              have q68 : s62 273 a.toNat = z39 := (t_s62 273 a.toNat (show 5184 ∉ [4133] from by decide +kernel)).trans q56
              have q69 : s62 274 a.toNat = 0 := (t_s62 274 a.toNat (show 5248 ∉ [4133] from by decide +kernel)).trans q57
              have Ra_s62 : JRc s62 a := JRc.fl Ra_s49 t_s62 (by decide +kernel)
              have RC_s62 : RCk s62 s0 a := RCk.fl RC_s49 t_s62 (by decide +kernel)
              obtain ⟨z70, e_z70⟩ : ∃ z, z = s62 256 36 := ⟨_, rfl⟩
              have g_z70 : (0 : Int) ≤ s62 256 36 ∧ s62 256 36 ≤ 160 := hG_s62 256 36
              show xe none 186 137 [(4, vi z33), (3, vi z11), (0, .ref 256), (1, vi a), (2, vi b)] [vi z61] s62 0 0 _
              have h5 := xp_z61
              clear xp_z61
              rw [show s49 283 = s0 283 from funext fun i => f_s49 283 i (show 5824 ∉ [4133, 4136, 4132, 4134, 4135, 5120, 5184, 5248] from by decide +kernel), show s49 256 34 = s0 256 34 from f_s49 256 34 (show 4131 ∉ [4133, 4136, 4132, 4134, 4135, 5120, 5184, 5248] from by decide +kernel), F0.1] at h5
              have f0_ := F.1
              have c0 := (cl_rs (i := 8 * b) (R := s0 256 17) (show kwd (s0 283) (s0 256 34) (sk (s0 283) (s0 256 34) (s0 256 36)) ≠ -1 by omega) (by omega)).2 (by omega)
              have ql := (sk_le (T := s0 283) (n := s0 256 34) (p := s49 256 36)).1
              rw [F0.1] at ql
              refine x_bipush k186_137 (by decide +kernel) ?_
              refine x_ic_eq k186_139 (t := 152) rfl (by first | exact x_rbe e_z61 g_z61 rfl rfl | exact x_rb g_z61 rfl rfl | exact ⟨by omega, by omega⟩) ⟨by decide, by decide⟩ (fun c71 => ?_) (fun c71 => ?_)
              · skip
                refine x_A k186_152 (fun _ => rfl) ?_
                refine x_A k186_153 (fun _ => rfl) ?_
                refine x_getI k186_154 (f := 36) rfl (q := 256) (n := 62) (kd := 15) ⟨by decide, rfl⟩ (by decide) rfl ?_
                refine x_rw (e_z70.symm) ?_
                refine x_A k186_157 (fun _ => rfl) ?_
                refine x_iadd k186_158 ?_
                refine x_top (fun z72 e_z72 => ?_)
                refine x_putI k186_159 (f := 36) rfl (q := 256) (n := 62) (kd := 15) ⟨by decide, rfl⟩ rfl rfl rfl ?_
                refine x_nh (fun s73 e_s73 => ?_)
                have hG_s73 : GI s73 := by rw [e_s73]; exact hG_s62.up (show 0 ≤ z72 ∧ z72 ≤ 160 from (by first | exact x_rbe e_z72 g_z72 rfl rfl | exact x_rb g_z72 rfl rfl | exact ⟨by omega, by omega⟩))
                have f_s73 : FL [4133, 4136, 4132, 4134, 4135, 5120, 5184, 5248] s0 s73 := by rw [e_s73]; exact f_s62.up (show 4133 ∈ [4133, 4136, 4132, 4134, 4135, 5120, 5184, 5248] from by decide +kernel)
                have q74 : s73 256 34 = z1 := by rw [e_s73, x_up_i (by decide)]; exact q63
                have q75 : s73 256 17 = z3 := by rw [e_s73, x_up_i (by decide)]; exact q64
                have q76 : s73 256 38 = z10 := by rw [e_s73, x_up_i (by decide)]; exact q65
                have q77 : s73 256 39 = z39 := by rw [e_s73, x_up_i (by decide)]; exact q66
                have q78 : s73 256 35 = z40 := by rw [e_s73, x_up_i (by decide)]; exact q67
                have q79 : s73 256 36 = z72 := by rw [e_s73]; exact x_up_same
                have q80 : s73 273 a.toNat = z39 := by rw [e_s73, x_up_q (by first | decide | omega)]; exact q68
                have q81 : s73 274 a.toNat = 0 := by rw [e_s73, x_up_q (by first | decide | omega)]; exact q69
                have Ra_s73 : JRc s73 a := by rw [e_s73]; exact JRc.up Ra_s62 (show 4133 ∉ [5120, 5184] from by decide +kernel)
                have RC_s73 : RCk s73 s0 a := by rw [e_s73]; exact RCk.up RC_s62 (show 4133 ∉ LRC from by decide)
                refine x_A k186_162 (fun _ => rfl) ?_
                refine x_getR k186_163 (f := 21) rfl (q := 256) (n := 62) (kd := 15) ⟨by decide, rfl⟩ (q2 := 272) (by decide) rfl ?_
                refine x_A k186_166 (fun _ => rfl) ?_
                refine x_A k186_167 (fun _ => rfl) ?_
                refine x_iast k186_168 (q := 272) (n := 72) ⟨by decide, rfl⟩ (by decide) (by first | exact x_rbl b_a rfl rfl | exact ⟨by omega, by omega⟩) ?_
                refine x_nh (fun s82 e_s82 => ?_)
                have hG_s82 : GI s82 := by rw [e_s82]; exact hG_s73.up (show 0 ≤ z11 ∧ z11 ≤ 5 from (by first | exact x_rbe e_z11 g_z11 rfl rfl | exact x_rb g_z11 rfl rfl | exact ⟨by omega, by omega⟩))
                have f_s82 : FL [4133, 4136, 4132, 4134, 4135, 5120, 5184, 5248] s0 s82 := by rw [e_s82]; exact f_s73.up (show 5120 ∈ [4133, 4136, 4132, 4134, 4135, 5120, 5184, 5248] from by decide +kernel)
                have q83 : s82 256 34 = z1 := by rw [e_s82, x_up_q (by decide)]; exact q74
                have q84 : s82 256 17 = z3 := by rw [e_s82, x_up_q (by decide)]; exact q75
                have q85 : s82 256 38 = z10 := by rw [e_s82, x_up_q (by decide)]; exact q76
                have q86 : s82 256 39 = z39 := by rw [e_s82, x_up_q (by decide)]; exact q77
                have q87 : s82 256 35 = z40 := by rw [e_s82, x_up_q (by decide)]; exact q78
                have q88 : s82 256 36 = z72 := by rw [e_s82, x_up_q (by decide)]; exact q79
                have q89 : s82 273 a.toNat = z39 := by rw [e_s82, x_up_q (by first | decide | omega)]; exact q80
                have q90 : s82 274 a.toNat = 0 := by rw [e_s82, x_up_q (by first | decide | omega)]; exact q81
                have q91 : s82 272 a.toNat = z11 := by rw [e_s82]; exact x_up_same
                have Ra_s82 : JRc s82 a := by rw [e_s82]; exact JRc.st Ra_s73 (by omega)
                have RC_s82 : RCk s82 s0 a := by rw [e_s82]; exact RCk.st RC_s73
                refine x_A k186_169 (fun _ => rfl) ?_
                exact x_iret k186_170 rfl ⟨hG_s82, f_s82, 0, rfl, ⟨by decide, by decide⟩, ⟨(by unfold ClR; have c1 := c0.2 (by omega); clear c0; exact ⟨by omega, fun w => by omega, fun w => ⟨by rw [show s82 256 36 = clq (s0 283) (s0 256 34) (sk (s0 283) (s0 256 34) (s0 256 36)) + 1 by omega]; rfl, by omega, by omega, by omega, fun w => by have := F0.2.2.2.2.1 w; omega, by have := F0.2.2.2.2.2; omega⟩⟩), ⟨fun hb => by omega, fun _ => JRc.add Ra_s82 (by omega) (fun hk => by rw [q91] at hk; rw [q89]; omega)⟩⟩, Ra_s82, RC_s82⟩
              · skip
                refine x_A k186_142 (fun _ => rfl) ?_
                refine x_A k186_143 (fun _ => rfl) ?_
                refine x_A k186_144 (fun _ => rfl) ?_
                refine x_getI k186_145 (f := 36) rfl (q := 256) (n := 62) (kd := 15) ⟨by decide, rfl⟩ (by decide) rfl ?_
                refine x_rw (e_z70.symm) ?_
                refine x_callV k186_148 (y := 177) (n := 2) (w0 := 0) (w1 := 2) (as := [vi 1, vi z70]) (rest := []) (by decide +kernel) (q := 256) (nq := 62) (kq := 15) ⟨by decide, rfl⟩ rfl rfl rfl rfl (xe_mono (E_X11_fails_256 s62 hG_s62 1 ⟨by decide, by decide⟩ z70 (by first | exact x_rbe e_z70 g_z70 rfl rfl | exact x_rb g_z70 rfl rfl | exact ⟨by omega, by omega⟩)) ?_)
                rintro s93 v ⟨hG_s93, t_s93, z92, rfl, g_z92, xp_z92⟩
                have f_s93 : FL [4133, 4136, 4132, 4134, 4135, 5120, 5184, 5248] s0 s93 := f_s62.tr t_s93 (by decide +kernel)
                have q94 : s93 256 34 = z1 := (t_s93 256 34 (show 4131 ∉ [4132] from by decide +kernel)).trans q63
                have q95 : s93 256 17 = z3 := (t_s93 256 17 (show 4114 ∉ [4132] from by decide +kernel)).trans q64
                have q96 : s93 256 38 = z10 := (t_s93 256 38 (show 4135 ∉ [4132] from by decide +kernel)).trans q65
                have q97 : s93 256 39 = z39 := (t_s93 256 39 (show 4136 ∉ [4132] from by decide +kernel)).trans q66
                have q98 : s93 256 36 = z70 := (t_s93 256 36 (show 4133 ∉ [4132] from by decide +kernel)).trans e_z70.symm
                have q99 : s93 273 a.toNat = z39 := (t_s93 273 a.toNat (show 5184 ∉ [4132] from by decide +kernel)).trans q68
                have q100 : s93 274 a.toNat = 0 := (t_s93 274 a.toNat (show 5248 ∉ [4132] from by decide +kernel)).trans q69
                have Ra_s93 : JRc s93 a := JRc.fl Ra_s62 t_s93 (by decide +kernel)
                have RC_s93 : RCk s93 s0 a := RCk.fl RC_s62 t_s93 (by decide +kernel)
                obtain ⟨z101, e_z101⟩ : ∃ z, z = s93 256 35 := ⟨_, rfl⟩
                have g_z101 : (-2147483648) ≤ s93 256 35 ∧ s93 256 35 ≤ 2147483647 := hG_s93 256 35
                show xe none 186 151 [(4, vi z33), (3, vi z11), (0, .ref 256), (1, vi a), (2, vi b)] [vi z92] s93 0 0 _
                exact x_iret k186_151 rfl ⟨hG_s93, f_s93, z92, rfl, (by first | exact x_rbe e_z92 g_z92 rfl rfl | exact x_rb g_z92 rfl rfl | exact ⟨by omega, by omega⟩), ⟨(by unfold ClR; have c1 := c0.1 (by omega); clear c0; exact ⟨by omega, fun w => by omega, fun w => by omega⟩), ⟨fun hb => by omega, fun hz => by exfalso; omega⟩⟩, Ra_s93, RC_s93⟩
            · skip
              refine x_A k186_130 (fun _ => rfl) ?_
              exact x_iret k186_132 rfl ⟨hG_s49, f_s49, z33, rfl, (by first | exact x_rbe e_z33 g_z33 rfl rfl | exact x_rb g_z33 rfl rfl | exact ⟨by omega, by omega⟩), ⟨(by unfold ClR; have c0 := cl_rs (i := 8 * b) (R := s0 256 17) (show kwd (s0 283) (s0 256 34) (sk (s0 283) (s0 256 34) (s0 256 36)) ≠ -1 by omega) (by omega); have f0_ := F.1; have c1 := c0.1 (by omega); exact ⟨by omega, fun w => by rw [c1.2]; exact F.2.1 (by omega), fun w => by omega⟩), ⟨fun hb => by omega, fun hz => by exfalso; omega⟩⟩, Ra_s49, RC_s49⟩
          · skip
            refine x_A k186_81 (fun _ => rfl) ?_
            refine x_A k186_82 (fun _ => rfl) ?_
            refine x_bipush k186_83 (by decide +kernel) ?_
            refine x_A k186_85 (fun _ => rfl) ?_
            refine x_A k186_86 (fun _ => rfl) ?_
            refine x_callV k186_87 (y := 180) (n := 4) (w0 := 0) (w1 := 4) (as := [vi 1, vi 20, vi 2, vi 2]) (rest := []) (by decide +kernel) (q := 256) (nq := 62) (kq := 15) ⟨by decide, rfl⟩ rfl rfl rfl rfl (xe_mono (E_X11_readNumber_256 s23 hG_s23 1 ⟨by decide, by decide⟩ 20 ⟨by decide, by decide⟩ 2 ⟨by decide, by decide⟩ 2 ⟨by decide, by decide⟩ (by omega)) ?_)
            rintro s103 v ⟨hG_s103, t_s103, z102, rfl, g_z102, xp_z102⟩
            have f_s103 : FL [4133, 4136, 4132, 4134, 4135, 5120, 5184, 5248] s0 s103 := f_s23.tr t_s103 (by decide +kernel)
            have q104 : s103 256 34 = z1 := (t_s103 256 34 (show 4131 ∉ [4133, 4136, 4132] from by decide +kernel)).trans q24
            have q105 : s103 256 17 = z3 := (t_s103 256 17 (show 4114 ∉ [4133, 4136, 4132] from by decide +kernel)).trans q26
            have q106 : s103 256 38 = z10 := (t_s103 256 38 (show 4135 ∉ [4133, 4136, 4132] from by decide +kernel)).trans q27
            have Ra_s103 : JRc s103 a := JRc.fl Ra_s23 t_s103 (by decide +kernel)
            have RC_s103 : RCk s103 s0 a := RCk.fl RC_s23 t_s103 (by decide +kernel)
            obtain ⟨z107, e_z107⟩ : ∃ z, z = s103 256 36 := ⟨_, rfl⟩
            have g_z107 : (0 : Int) ≤ s103 256 36 ∧ s103 256 36 ≤ 160 := hG_s103 256 36
            obtain ⟨z108, e_z108⟩ : ∃ z, z = s103 256 39 := ⟨_, rfl⟩
            have g_z108 : (0 : Int) ≤ s103 256 39 ∧ s103 256 39 ≤ 1100000 := hG_s103 256 39
            obtain ⟨z109, e_z109⟩ : ∃ z, z = s103 256 35 := ⟨_, rfl⟩
            have g_z109 : (-2147483648) ≤ s103 256 35 ∧ s103 256 35 ≤ 2147483647 := hG_s103 256 35
            show xe none 186 90 [(4, vi 0), (3, vi z11), (0, .ref 256), (1, vi a), (2, vi b)] [vi z102] s103 0 0 _
            have n1 := xp_z102
            clear xp_z102
            rw [show s23 283 = s0 283 from funext fun i => f_s23 283 i (show 5824 ∉ [4133, 4136, 4132, 4134, 4135, 5120, 5184, 5248] from by decide +kernel), show s23 256 34 = s0 256 34 from f_s23 256 34 (show 4131 ∉ [4133, 4136, 4132, 4134, 4135, 5120, 5184, 5248] from by decide +kernel), show s23 256 36 = te (s0 283) (s0 256 34) (sk (s0 283) (s0 256 34) (s0 256 36)) by omega] at n1
            rw [show sk (s0 283) (s0 256 34) (te (s0 283) (s0 256 34) (sk (s0 283) (s0 256 34) (s0 256 36))) = nx (s0 283) (s0 256 34) (sk (s0 283) (s0 256 34) (s0 256 36)) from rfl] at n1
            refine x_goto k186_90 (t := 106) rfl ?_
            refine x_istore k186_106 (ls' := [(4, vi z102), (3, vi z11), (0, .ref 256), (1, vi a), (2, vi b)]) (by decide) rfl ?_
            refine x_A k186_108 (fun _ => rfl) ?_
            refine x_getR k186_109 (f := 22) rfl (q := 256) (n := 62) (kd := 15) ⟨by decide, rfl⟩ (q2 := 273) (by decide) rfl ?_
            refine x_A k186_112 (fun _ => rfl) ?_
            refine x_A k186_113 (fun _ => rfl) ?_
            refine x_getI k186_114 (f := 39) rfl (q := 256) (n := 62) (kd := 15) ⟨by decide, rfl⟩ (by decide) rfl ?_
            refine x_rw (e_z108.symm) ?_
            refine x_iast k186_117 (q := 273) (n := 72) ⟨by decide, rfl⟩ (by decide) (by first | exact x_rbl b_a rfl rfl | exact ⟨by omega, by omega⟩) ?_
            refine x_nh (fun s110 e_s110 => ?_)
            have hG_s110 : GI s110 := by rw [e_s110]; exact hG_s103.up (show (-2147483648) ≤ z108 ∧ z108 ≤ 2147483647 from (by first | exact x_rbe e_z108 g_z108 rfl rfl | exact x_rb g_z108 rfl rfl | exact ⟨by omega, by omega⟩))
            have f_s110 : FL [4133, 4136, 4132, 4134, 4135, 5120, 5184, 5248] s0 s110 := by rw [e_s110]; exact f_s103.up (show 5184 ∈ [4133, 4136, 4132, 4134, 4135, 5120, 5184, 5248] from by decide +kernel)
            have q111 : s110 256 34 = z1 := by rw [e_s110, x_up_q (by decide)]; exact q104
            have q112 : s110 256 17 = z3 := by rw [e_s110, x_up_q (by decide)]; exact q105
            have q113 : s110 256 38 = z10 := by rw [e_s110, x_up_q (by decide)]; exact q106
            have q114 : s110 256 36 = z107 := by rw [e_s110, x_up_q (by decide)]; exact e_z107.symm
            have q115 : s110 256 39 = z108 := by rw [e_s110, x_up_q (by decide)]; exact e_z108.symm
            have q116 : s110 256 35 = z109 := by rw [e_s110, x_up_q (by decide)]; exact e_z109.symm
            have q117 : s110 273 a.toNat = z108 := by rw [e_s110]; exact x_up_same
            have Ra_s110 : JRc s110 a := by rw [e_s110]; exact JRc.st Ra_s103 (by omega)
            have RC_s110 : RCk s110 s0 a := by rw [e_s110]; exact RCk.st RC_s103
            refine x_A k186_118 (fun _ => rfl) ?_
            refine x_getR k186_119 (f := 23) rfl (q := 256) (n := 62) (kd := 15) ⟨by decide, rfl⟩ (q2 := 274) (by decide) rfl ?_
            refine x_A k186_122 (fun _ => rfl) ?_
            refine x_A k186_123 (fun _ => rfl) ?_
            refine x_iast k186_124 (q := 274) (n := 72) ⟨by decide, rfl⟩ (by decide) (by first | exact x_rbl b_a rfl rfl | exact ⟨by omega, by omega⟩) ?_
            refine x_nh (fun s118 e_s118 => ?_)
            have hG_s118 : GI s118 := by rw [e_s118]; exact hG_s110.up (show (-2147483648) ≤ 0 ∧ 0 ≤ 2147483647 from ⟨by decide, by decide⟩)
            have f_s118 : FL [4133, 4136, 4132, 4134, 4135, 5120, 5184, 5248] s0 s118 := by rw [e_s118]; exact f_s110.up (show 5248 ∈ [4133, 4136, 4132, 4134, 4135, 5120, 5184, 5248] from by decide +kernel)
            have q119 : s118 256 34 = z1 := by rw [e_s118, x_up_q (by decide)]; exact q111
            have q120 : s118 256 17 = z3 := by rw [e_s118, x_up_q (by decide)]; exact q112
            have q121 : s118 256 38 = z10 := by rw [e_s118, x_up_q (by decide)]; exact q113
            have q122 : s118 256 36 = z107 := by rw [e_s118, x_up_q (by decide)]; exact q114
            have q123 : s118 256 39 = z108 := by rw [e_s118, x_up_q (by decide)]; exact q115
            have q124 : s118 256 35 = z109 := by rw [e_s118, x_up_q (by decide)]; exact q116
            have q125 : s118 273 a.toNat = z108 := by rw [e_s118, x_up_q (by first | decide | omega)]; exact q117
            have q126 : s118 274 a.toNat = 0 := by rw [e_s118]; exact x_up_same
            have Ra_s118 : JRc s118 a := by rw [e_s118]; exact JRc.up Ra_s110 (show 5248 ∉ [5120, 5184] from by decide +kernel)
            have RC_s118 : RCk s118 s0 a := by rw [e_s118]; exact RCk.st RC_s110
            have kk : kwd (s0 283) (s0 256 34) (sk (s0 283) (s0 256 34) (s0 256 36)) = 5 := by omega
            have fz : z102 = f1f (s0 283) (s0 256 34) (nx (s0 283) (s0 256 34) (sk (s0 283) (s0 256 34) (s0 256 36))) (kwd (s0 283) (s0 256 34) (sk (s0 283) (s0 256 34) (s0 256 36))) (s0 256 17) := by rw [kk, f1_5]; omega
            have F := RsQ.n5 (s' := s118) (T := s0 283) (n := s0 256 34) (p := sk (s0 283) (s0 256 34) (s0 256 36)) (R := s0 256 17) (a := a) (z := z102) (g0 := s0 256 35) (by omega) fz (fun w => by have n1c := n1.2.2.1 w; clear n1; omega) (fun w => by have n1a := n1.2.1 w; have n1d := n1.2.2.2.1 w; have n1f := n1.2.2.2.2.2; clear n1; exact ⟨by omega, by omega, by omega, by omega, by omega⟩)
            clear n1 fz
            refine x_A k186_125 (fun _ => rfl) ?_
            refine x_if_le k186_127 (t := 133) rfl (by first | exact x_rbe e_z102 g_z102 rfl rfl | exact x_rb g_z102 rfl rfl | exact ⟨by omega, by omega⟩) (fun c127 => ?_) (fun c127 => ?_)
            · skip
              refine x_A k186_133 (fun _ => rfl) ?_
              have F0 := F.2.2 (by omega)
              refine x_callV k186_134 (y := 176) (n := 0) (w0 := 0) (w1 := 0) (as := []) (rest := []) (by decide +kernel) (q := 256) (nq := 62) (kq := 15) ⟨by decide, rfl⟩ rfl rfl rfl rfl (xe_mono (E_X11_here_256 s118 hG_s118 (by omega)) ?_)
              rintro s131 v ⟨hG_s131, t_s131, z130, rfl, g_z130, xp_z130⟩
              have f_s131 : FL [4133, 4136, 4132, 4134, 4135, 5120, 5184, 5248] s0 s131 := f_s118.tr t_s131 (by decide +kernel)
              have q132 : s131 256 34 = z1 := (t_s131 256 34 (show 4131 ∉ [4133] from by decide +kernel)).trans q119
              have q133 : s131 256 17 = z3 := (t_s131 256 17 (show 4114 ∉ [4133] from by decide +kernel)).trans q120
              have q134 : s131 256 38 = z10 := (t_s131 256 38 (show 4135 ∉ [4133] from by decide +kernel)).trans q121
              have q135 : s131 256 39 = z108 := (t_s131 256 39 (show 4136 ∉ [4133] from by decide +kernel)).trans q123
              have q136 : s131 256 35 = z109 := (t_s131 256 35 (show 4132 ∉ [4133] from by decide +kernel)).trans q124
              have q137 : s131 273 a.toNat = z108 := (t_s131 273 a.toNat (show 5184 ∉ [4133] from by decide +kernel)).trans q125
              have q138 : s131 274 a.toNat = 0 := (t_s131 274 a.toNat (show 5248 ∉ [4133] from by decide +kernel)).trans q126
              have Ra_s131 : JRc s131 a := JRc.fl Ra_s118 t_s131 (by decide +kernel)
              have RC_s131 : RCk s131 s0 a := RCk.fl RC_s118 t_s131 (by decide +kernel)
              obtain ⟨z139, e_z139⟩ : ∃ z, z = s131 256 36 := ⟨_, rfl⟩
              have g_z139 : (0 : Int) ≤ s131 256 36 ∧ s131 256 36 ≤ 160 := hG_s131 256 36
              show xe none 186 137 [(4, vi z102), (3, vi z11), (0, .ref 256), (1, vi a), (2, vi b)] [vi z130] s131 0 0 _
              have h5 := xp_z130
              clear xp_z130
              rw [show s118 283 = s0 283 from funext fun i => f_s118 283 i (show 5824 ∉ [4133, 4136, 4132, 4134, 4135, 5120, 5184, 5248] from by decide +kernel), show s118 256 34 = s0 256 34 from f_s118 256 34 (show 4131 ∉ [4133, 4136, 4132, 4134, 4135, 5120, 5184, 5248] from by decide +kernel), F0.1] at h5
              have f0_ := F.1
              have c0 := (cl_rs (i := 8 * b) (R := s0 256 17) (show kwd (s0 283) (s0 256 34) (sk (s0 283) (s0 256 34) (s0 256 36)) ≠ -1 by omega) (by omega)).2 (by omega)
              have ql := (sk_le (T := s0 283) (n := s0 256 34) (p := s118 256 36)).1
              rw [F0.1] at ql
              refine x_bipush k186_137 (by decide +kernel) ?_
              refine x_ic_eq k186_139 (t := 152) rfl (by first | exact x_rbe e_z130 g_z130 rfl rfl | exact x_rb g_z130 rfl rfl | exact ⟨by omega, by omega⟩) ⟨by decide, by decide⟩ (fun c140 => ?_) (fun c140 => ?_)
              · skip
                refine x_A k186_152 (fun _ => rfl) ?_
                refine x_A k186_153 (fun _ => rfl) ?_
                refine x_getI k186_154 (f := 36) rfl (q := 256) (n := 62) (kd := 15) ⟨by decide, rfl⟩ (by decide) rfl ?_
                refine x_rw (e_z139.symm) ?_
                refine x_A k186_157 (fun _ => rfl) ?_
                refine x_iadd k186_158 ?_
                refine x_top (fun z141 e_z141 => ?_)
                refine x_putI k186_159 (f := 36) rfl (q := 256) (n := 62) (kd := 15) ⟨by decide, rfl⟩ rfl rfl rfl ?_
                refine x_nh (fun s142 e_s142 => ?_)
                have hG_s142 : GI s142 := by rw [e_s142]; exact hG_s131.up (show 0 ≤ z141 ∧ z141 ≤ 160 from (by first | exact x_rbe e_z141 g_z141 rfl rfl | exact x_rb g_z141 rfl rfl | exact ⟨by omega, by omega⟩))
                have f_s142 : FL [4133, 4136, 4132, 4134, 4135, 5120, 5184, 5248] s0 s142 := by rw [e_s142]; exact f_s131.up (show 4133 ∈ [4133, 4136, 4132, 4134, 4135, 5120, 5184, 5248] from by decide +kernel)
                have q143 : s142 256 34 = z1 := by rw [e_s142, x_up_i (by decide)]; exact q132
                have q144 : s142 256 17 = z3 := by rw [e_s142, x_up_i (by decide)]; exact q133
                have q145 : s142 256 38 = z10 := by rw [e_s142, x_up_i (by decide)]; exact q134
                have q146 : s142 256 39 = z108 := by rw [e_s142, x_up_i (by decide)]; exact q135
                have q147 : s142 256 35 = z109 := by rw [e_s142, x_up_i (by decide)]; exact q136
                have q148 : s142 256 36 = z141 := by rw [e_s142]; exact x_up_same
                have q149 : s142 273 a.toNat = z108 := by rw [e_s142, x_up_q (by first | decide | omega)]; exact q137
                have q150 : s142 274 a.toNat = 0 := by rw [e_s142, x_up_q (by first | decide | omega)]; exact q138
                have Ra_s142 : JRc s142 a := by rw [e_s142]; exact JRc.up Ra_s131 (show 4133 ∉ [5120, 5184] from by decide +kernel)
                have RC_s142 : RCk s142 s0 a := by rw [e_s142]; exact RCk.up RC_s131 (show 4133 ∉ LRC from by decide)
                refine x_A k186_162 (fun _ => rfl) ?_
                refine x_getR k186_163 (f := 21) rfl (q := 256) (n := 62) (kd := 15) ⟨by decide, rfl⟩ (q2 := 272) (by decide) rfl ?_
                refine x_A k186_166 (fun _ => rfl) ?_
                refine x_A k186_167 (fun _ => rfl) ?_
                refine x_iast k186_168 (q := 272) (n := 72) ⟨by decide, rfl⟩ (by decide) (by first | exact x_rbl b_a rfl rfl | exact ⟨by omega, by omega⟩) ?_
                refine x_nh (fun s151 e_s151 => ?_)
                have hG_s151 : GI s151 := by rw [e_s151]; exact hG_s142.up (show 0 ≤ z11 ∧ z11 ≤ 5 from (by first | exact x_rbe e_z11 g_z11 rfl rfl | exact x_rb g_z11 rfl rfl | exact ⟨by omega, by omega⟩))
                have f_s151 : FL [4133, 4136, 4132, 4134, 4135, 5120, 5184, 5248] s0 s151 := by rw [e_s151]; exact f_s142.up (show 5120 ∈ [4133, 4136, 4132, 4134, 4135, 5120, 5184, 5248] from by decide +kernel)
                have q152 : s151 256 34 = z1 := by rw [e_s151, x_up_q (by decide)]; exact q143
                have q153 : s151 256 17 = z3 := by rw [e_s151, x_up_q (by decide)]; exact q144
                have q154 : s151 256 38 = z10 := by rw [e_s151, x_up_q (by decide)]; exact q145
                have q155 : s151 256 39 = z108 := by rw [e_s151, x_up_q (by decide)]; exact q146
                have q156 : s151 256 35 = z109 := by rw [e_s151, x_up_q (by decide)]; exact q147
                have q157 : s151 256 36 = z141 := by rw [e_s151, x_up_q (by decide)]; exact q148
                have q158 : s151 273 a.toNat = z108 := by rw [e_s151, x_up_q (by first | decide | omega)]; exact q149
                have q159 : s151 274 a.toNat = 0 := by rw [e_s151, x_up_q (by first | decide | omega)]; exact q150
                have q160 : s151 272 a.toNat = z11 := by rw [e_s151]; exact x_up_same
                have Ra_s151 : JRc s151 a := by rw [e_s151]; exact JRc.st Ra_s142 (by omega)
                have RC_s151 : RCk s151 s0 a := by rw [e_s151]; exact RCk.st RC_s142
                refine x_A k186_169 (fun _ => rfl) ?_
                exact x_iret k186_170 rfl ⟨hG_s151, f_s151, 0, rfl, ⟨by decide, by decide⟩, ⟨(by unfold ClR; have c1 := c0.2 (by omega); clear c0; exact ⟨by omega, fun w => by omega, fun w => ⟨by rw [show s151 256 36 = clq (s0 283) (s0 256 34) (sk (s0 283) (s0 256 34) (s0 256 36)) + 1 by omega]; rfl, by omega, by omega, by omega, fun w => by have := F0.2.2.2.2.1 w; omega, by have := F0.2.2.2.2.2; omega⟩⟩), ⟨fun hb => by omega, fun _ => JRc.add Ra_s151 (by omega) (fun hk => by rw [q160] at hk; rw [q158]; omega)⟩⟩, Ra_s151, RC_s151⟩
              · skip
                refine x_A k186_142 (fun _ => rfl) ?_
                refine x_A k186_143 (fun _ => rfl) ?_
                refine x_A k186_144 (fun _ => rfl) ?_
                refine x_getI k186_145 (f := 36) rfl (q := 256) (n := 62) (kd := 15) ⟨by decide, rfl⟩ (by decide) rfl ?_
                refine x_rw (e_z139.symm) ?_
                refine x_callV k186_148 (y := 177) (n := 2) (w0 := 0) (w1 := 2) (as := [vi 1, vi z139]) (rest := []) (by decide +kernel) (q := 256) (nq := 62) (kq := 15) ⟨by decide, rfl⟩ rfl rfl rfl rfl (xe_mono (E_X11_fails_256 s131 hG_s131 1 ⟨by decide, by decide⟩ z139 (by first | exact x_rbe e_z139 g_z139 rfl rfl | exact x_rb g_z139 rfl rfl | exact ⟨by omega, by omega⟩)) ?_)
                rintro s162 v ⟨hG_s162, t_s162, z161, rfl, g_z161, xp_z161⟩
                have f_s162 : FL [4133, 4136, 4132, 4134, 4135, 5120, 5184, 5248] s0 s162 := f_s131.tr t_s162 (by decide +kernel)
                have q163 : s162 256 34 = z1 := (t_s162 256 34 (show 4131 ∉ [4132] from by decide +kernel)).trans q132
                have q164 : s162 256 17 = z3 := (t_s162 256 17 (show 4114 ∉ [4132] from by decide +kernel)).trans q133
                have q165 : s162 256 38 = z10 := (t_s162 256 38 (show 4135 ∉ [4132] from by decide +kernel)).trans q134
                have q166 : s162 256 39 = z108 := (t_s162 256 39 (show 4136 ∉ [4132] from by decide +kernel)).trans q135
                have q167 : s162 256 36 = z139 := (t_s162 256 36 (show 4133 ∉ [4132] from by decide +kernel)).trans e_z139.symm
                have q168 : s162 273 a.toNat = z108 := (t_s162 273 a.toNat (show 5184 ∉ [4132] from by decide +kernel)).trans q137
                have q169 : s162 274 a.toNat = 0 := (t_s162 274 a.toNat (show 5248 ∉ [4132] from by decide +kernel)).trans q138
                have Ra_s162 : JRc s162 a := JRc.fl Ra_s131 t_s162 (by decide +kernel)
                have RC_s162 : RCk s162 s0 a := RCk.fl RC_s131 t_s162 (by decide +kernel)
                obtain ⟨z170, e_z170⟩ : ∃ z, z = s162 256 35 := ⟨_, rfl⟩
                have g_z170 : (-2147483648) ≤ s162 256 35 ∧ s162 256 35 ≤ 2147483647 := hG_s162 256 35
                show xe none 186 151 [(4, vi z102), (3, vi z11), (0, .ref 256), (1, vi a), (2, vi b)] [vi z161] s162 0 0 _
                exact x_iret k186_151 rfl ⟨hG_s162, f_s162, z161, rfl, (by first | exact x_rbe e_z161 g_z161 rfl rfl | exact x_rb g_z161 rfl rfl | exact ⟨by omega, by omega⟩), ⟨(by unfold ClR; have c1 := c0.1 (by omega); clear c0; exact ⟨by omega, fun w => by omega, fun w => by omega⟩), ⟨fun hb => by omega, fun hz => by exfalso; omega⟩⟩, Ra_s162, RC_s162⟩
            · skip
              refine x_A k186_130 (fun _ => rfl) ?_
              exact x_iret k186_132 rfl ⟨hG_s118, f_s118, z102, rfl, (by first | exact x_rbe e_z102 g_z102 rfl rfl | exact x_rb g_z102 rfl rfl | exact ⟨by omega, by omega⟩), ⟨(by unfold ClR; have c0 := cl_rs (i := 8 * b) (R := s0 256 17) (show kwd (s0 283) (s0 256 34) (sk (s0 283) (s0 256 34) (s0 256 36)) ≠ -1 by omega) (by omega); have f0_ := F.1; have c1 := c0.1 (by omega); exact ⟨by omega, fun w => by rw [c1.2]; exact F.2.1 (by omega), fun w => by omega⟩), ⟨fun hb => by omega, fun hz => by exfalso; omega⟩⟩, Ra_s118, RC_s118⟩
        · skip
          refine x_A k186_65 (fun _ => rfl) ?_
          refine x_A k186_66 (fun _ => rfl) ?_
          refine x_A k186_67 (fun _ => rfl) ?_
          refine x_callV k186_68 (y := 185) (n := 2) (w0 := 0) (w1 := 2) (as := [vi a, vi z11]) (rest := []) (by decide +kernel) (q := 256) (nq := 62) (kq := 15) ⟨by decide, rfl⟩ rfl rfl rfl rfl (xe_mono (E_X11_readPair_256 s23 hG_s23 a (by first | exact x_rb b_a rfl rfl | exact ⟨by omega, by omega⟩) z11 (by first | exact x_rbe e_z11 g_z11 rfl rfl | exact x_rb g_z11 rfl rfl | exact ⟨by omega, by omega⟩) (by omega) Ra_s23 RCk.rf) ?_)
          rintro s172 v ⟨hG_s172, t_s172, z171, rfl, g_z171, xp_z171, Ra_s172, RC_s172⟩
          have f_s172 : FL [4133, 4136, 4132, 4134, 4135, 5120, 5184, 5248] s0 s172 := f_s23.tr t_s172 (by decide +kernel)
          have q173 : s172 256 34 = z1 := (t_s172 256 34 (show 4131 ∉ [4133, 4136, 4132, 4134, 4135, 5184, 5248] from by decide +kernel)).trans q24
          have q174 : s172 256 17 = z3 := (t_s172 256 17 (show 4114 ∉ [4133, 4136, 4132, 4134, 4135, 5184, 5248] from by decide +kernel)).trans q26
          obtain ⟨z175, e_z175⟩ : ∃ z, z = s172 256 36 := ⟨_, rfl⟩
          have g_z175 : (0 : Int) ≤ s172 256 36 ∧ s172 256 36 ≤ 160 := hG_s172 256 36
          obtain ⟨z176, e_z176⟩ : ∃ z, z = s172 256 35 := ⟨_, rfl⟩
          have g_z176 : (-2147483648) ≤ s172 256 35 ∧ s172 256 35 ≤ 2147483647 := hG_s172 256 35
          show xe none 186 71 [(4, vi 0), (3, vi z11), (0, .ref 256), (1, vi a), (2, vi b)] [vi z171] s172 0 0 _
          have RCn_s172 : RCk s172 s0 a := fun j hj => ⟨(RC_s172 j hj).1.trans (RC_s23 j hj).1, (RC_s172 j hj).2.1.trans (RC_s23 j hj).2.1, (RC_s172 j hj).2.2.trans (RC_s23 j hj).2.2⟩
          have rr := xp_z171
          rw [show s23 283 = s0 283 from funext fun i => f_s23 283 i (show 5824 ∉ [4133, 4136, 4132, 4134, 4135, 5120, 5184, 5248] from by decide +kernel), show s23 256 34 = s0 256 34 from f_s23 256 34 (show 4131 ∉ [4133, 4136, 4132, 4134, 4135, 5120, 5184, 5248] from by decide +kernel), show s23 256 36 = te (s0 283) (s0 256 34) (sk (s0 283) (s0 256 34) (s0 256 36)) by omega, show s23 256 17 = s0 256 17 by omega] at rr
          have F := RsR.q (p := sk (s0 283) (s0 256 34) (s0 256 36)) rr (by omega)
          rw [show s23 256 35 = s0 256 35 by omega] at F
          clear rr
          clear xp_z171
          obtain ⟨z177, e_z177⟩ : ∃ z, z = s172 273 a.toNat := ⟨_, rfl⟩
          have g_z177 : (-2147483648) ≤ s172 273 a.toNat ∧ s172 273 a.toNat ≤ 2147483647 := hG_s172 273 a.toNat
          refine x_istore k186_71 (ls' := [(4, vi z171), (3, vi z11), (0, .ref 256), (1, vi a), (2, vi b)]) (by decide) rfl ?_
          refine x_goto k186_73 (t := 125) rfl ?_
          refine x_A k186_125 (fun _ => rfl) ?_
          refine x_if_le k186_127 (t := 133) rfl (by first | exact x_rbe e_z171 g_z171 rfl rfl | exact x_rb g_z171 rfl rfl | exact ⟨by omega, by omega⟩) (fun c178 => ?_) (fun c178 => ?_)
          · skip
            refine x_A k186_133 (fun _ => rfl) ?_
            obtain ⟨z180, e_z180⟩ : ∃ z, z = s172 274 a.toNat := ⟨_, rfl⟩
            have g_z180 : (-2147483648) ≤ s172 274 a.toNat ∧ s172 274 a.toNat ≤ 2147483647 := hG_s172 274 a.toNat
            have F0 := F.2.2 (by omega)
            refine x_callV k186_134 (y := 176) (n := 0) (w0 := 0) (w1 := 0) (as := []) (rest := []) (by decide +kernel) (q := 256) (nq := 62) (kq := 15) ⟨by decide, rfl⟩ rfl rfl rfl rfl (xe_mono (E_X11_here_256 s172 hG_s172 (by omega)) ?_)
            rintro s182 v ⟨hG_s182, t_s182, z181, rfl, g_z181, xp_z181⟩
            have f_s182 : FL [4133, 4136, 4132, 4134, 4135, 5120, 5184, 5248] s0 s182 := f_s172.tr t_s182 (by decide +kernel)
            have q183 : s182 256 34 = z1 := (t_s182 256 34 (show 4131 ∉ [4133] from by decide +kernel)).trans q173
            have q184 : s182 256 17 = z3 := (t_s182 256 17 (show 4114 ∉ [4133] from by decide +kernel)).trans q174
            have q185 : s182 256 35 = z176 := (t_s182 256 35 (show 4132 ∉ [4133] from by decide +kernel)).trans e_z176.symm
            have q186 : s182 273 a.toNat = z177 := (t_s182 273 a.toNat (show 5184 ∉ [4133] from by decide +kernel)).trans e_z177.symm
            have q187 : s182 274 a.toNat = z180 := (t_s182 274 a.toNat (show 5248 ∉ [4133] from by decide +kernel)).trans e_z180.symm
            have Ra_s182 : JRc s182 a := JRc.fl Ra_s172 t_s182 (by decide +kernel)
            have RC_s182 : RCk s182 s0 a := RCk.fl RCn_s172 t_s182 (by decide +kernel)
            obtain ⟨z188, e_z188⟩ : ∃ z, z = s182 256 36 := ⟨_, rfl⟩
            have g_z188 : (0 : Int) ≤ s182 256 36 ∧ s182 256 36 ≤ 160 := hG_s182 256 36
            show xe none 186 137 [(4, vi z171), (3, vi z11), (0, .ref 256), (1, vi a), (2, vi b)] [vi z181] s182 0 0 _
            have h5 := xp_z181
            clear xp_z181
            rw [show s172 283 = s0 283 from funext fun i => f_s172 283 i (show 5824 ∉ [4133, 4136, 4132, 4134, 4135, 5120, 5184, 5248] from by decide +kernel), show s172 256 34 = s0 256 34 from f_s172 256 34 (show 4131 ∉ [4133, 4136, 4132, 4134, 4135, 5120, 5184, 5248] from by decide +kernel), F0.1] at h5
            have f0_ := F.1
            have c0 := (cl_rs (i := 8 * b) (R := s0 256 17) (show kwd (s0 283) (s0 256 34) (sk (s0 283) (s0 256 34) (s0 256 36)) ≠ -1 by omega) (by omega)).2 (by omega)
            have ql := (sk_le (T := s0 283) (n := s0 256 34) (p := s172 256 36)).1
            rw [F0.1] at ql
            refine x_bipush k186_137 (by decide +kernel) ?_
            refine x_ic_eq k186_139 (t := 152) rfl (by first | exact x_rbe e_z181 g_z181 rfl rfl | exact x_rb g_z181 rfl rfl | exact ⟨by omega, by omega⟩) ⟨by decide, by decide⟩ (fun c189 => ?_) (fun c189 => ?_)
            · skip
              refine x_A k186_152 (fun _ => rfl) ?_
              refine x_A k186_153 (fun _ => rfl) ?_
              refine x_getI k186_154 (f := 36) rfl (q := 256) (n := 62) (kd := 15) ⟨by decide, rfl⟩ (by decide) rfl ?_
              refine x_rw (e_z188.symm) ?_
              refine x_A k186_157 (fun _ => rfl) ?_
              refine x_iadd k186_158 ?_
              refine x_top (fun z190 e_z190 => ?_)
              refine x_putI k186_159 (f := 36) rfl (q := 256) (n := 62) (kd := 15) ⟨by decide, rfl⟩ rfl rfl rfl ?_
              refine x_nh (fun s191 e_s191 => ?_)
              have hG_s191 : GI s191 := by rw [e_s191]; exact hG_s182.up (show 0 ≤ z190 ∧ z190 ≤ 160 from (by first | exact x_rbe e_z190 g_z190 rfl rfl | exact x_rb g_z190 rfl rfl | exact ⟨by omega, by omega⟩))
              have f_s191 : FL [4133, 4136, 4132, 4134, 4135, 5120, 5184, 5248] s0 s191 := by rw [e_s191]; exact f_s182.up (show 4133 ∈ [4133, 4136, 4132, 4134, 4135, 5120, 5184, 5248] from by decide +kernel)
              have q192 : s191 256 34 = z1 := by rw [e_s191, x_up_i (by decide)]; exact q183
              have q193 : s191 256 17 = z3 := by rw [e_s191, x_up_i (by decide)]; exact q184
              have q194 : s191 256 35 = z176 := by rw [e_s191, x_up_i (by decide)]; exact q185
              have q195 : s191 256 36 = z190 := by rw [e_s191]; exact x_up_same
              have q196 : s191 273 a.toNat = z177 := by rw [e_s191, x_up_q (by first | decide | omega)]; exact q186
              have q197 : s191 274 a.toNat = z180 := by rw [e_s191, x_up_q (by first | decide | omega)]; exact q187
              have Ra_s191 : JRc s191 a := by rw [e_s191]; exact JRc.up Ra_s182 (show 4133 ∉ [5120, 5184] from by decide +kernel)
              have RC_s191 : RCk s191 s0 a := by rw [e_s191]; exact RCk.up RC_s182 (show 4133 ∉ LRC from by decide)
              refine x_A k186_162 (fun _ => rfl) ?_
              refine x_getR k186_163 (f := 21) rfl (q := 256) (n := 62) (kd := 15) ⟨by decide, rfl⟩ (q2 := 272) (by decide) rfl ?_
              refine x_A k186_166 (fun _ => rfl) ?_
              refine x_A k186_167 (fun _ => rfl) ?_
              refine x_iast k186_168 (q := 272) (n := 72) ⟨by decide, rfl⟩ (by decide) (by first | exact x_rbl b_a rfl rfl | exact ⟨by omega, by omega⟩) ?_
              refine x_nh (fun s198 e_s198 => ?_)
              have hG_s198 : GI s198 := by rw [e_s198]; exact hG_s191.up (show 0 ≤ z11 ∧ z11 ≤ 5 from (by first | exact x_rbe e_z11 g_z11 rfl rfl | exact x_rb g_z11 rfl rfl | exact ⟨by omega, by omega⟩))
              have f_s198 : FL [4133, 4136, 4132, 4134, 4135, 5120, 5184, 5248] s0 s198 := by rw [e_s198]; exact f_s191.up (show 5120 ∈ [4133, 4136, 4132, 4134, 4135, 5120, 5184, 5248] from by decide +kernel)
              have q199 : s198 256 34 = z1 := by rw [e_s198, x_up_q (by decide)]; exact q192
              have q200 : s198 256 17 = z3 := by rw [e_s198, x_up_q (by decide)]; exact q193
              have q201 : s198 256 35 = z176 := by rw [e_s198, x_up_q (by decide)]; exact q194
              have q202 : s198 256 36 = z190 := by rw [e_s198, x_up_q (by decide)]; exact q195
              have q203 : s198 273 a.toNat = z177 := by rw [e_s198, x_up_q (by first | decide | omega)]; exact q196
              have q204 : s198 274 a.toNat = z180 := by rw [e_s198, x_up_q (by first | decide | omega)]; exact q197
              have q205 : s198 272 a.toNat = z11 := by rw [e_s198]; exact x_up_same
              have Ra_s198 : JRc s198 a := by rw [e_s198]; exact JRc.st Ra_s191 (by omega)
              have RC_s198 : RCk s198 s0 a := by rw [e_s198]; exact RCk.st RC_s191
              refine x_A k186_169 (fun _ => rfl) ?_
              exact x_iret k186_170 rfl ⟨hG_s198, f_s198, 0, rfl, ⟨by decide, by decide⟩, ⟨(by unfold ClR; have c1 := c0.2 (by omega); clear c0; exact ⟨by omega, fun w => by omega, fun w => ⟨by rw [show s198 256 36 = clq (s0 283) (s0 256 34) (sk (s0 283) (s0 256 34) (s0 256 36)) + 1 by omega]; rfl, by omega, by omega, by omega, fun w => by have := F0.2.2.2.2.1 w; omega, by have := F0.2.2.2.2.2; omega⟩⟩), ⟨fun hb => by omega, fun _ => JRc.add Ra_s198 (by omega) (fun hk => by rw [q205] at hk; rw [q203]; omega)⟩⟩, Ra_s198, RC_s198⟩
            · skip
              refine x_A k186_142 (fun _ => rfl) ?_
              refine x_A k186_143 (fun _ => rfl) ?_
              refine x_A k186_144 (fun _ => rfl) ?_
              refine x_getI k186_145 (f := 36) rfl (q := 256) (n := 62) (kd := 15) ⟨by decide, rfl⟩ (by decide) rfl ?_
              refine x_rw (e_z188.symm) ?_
              refine x_callV k186_148 (y := 177) (n := 2) (w0 := 0) (w1 := 2) (as := [vi 1, vi z188]) (rest := []) (by decide +kernel) (q := 256) (nq := 62) (kq := 15) ⟨by decide, rfl⟩ rfl rfl rfl rfl (xe_mono (E_X11_fails_256 s182 hG_s182 1 ⟨by decide, by decide⟩ z188 (by first | exact x_rbe e_z188 g_z188 rfl rfl | exact x_rb g_z188 rfl rfl | exact ⟨by omega, by omega⟩)) ?_)
              rintro s207 v ⟨hG_s207, t_s207, z206, rfl, g_z206, xp_z206⟩
              have f_s207 : FL [4133, 4136, 4132, 4134, 4135, 5120, 5184, 5248] s0 s207 := f_s182.tr t_s207 (by decide +kernel)
              have q208 : s207 256 34 = z1 := (t_s207 256 34 (show 4131 ∉ [4132] from by decide +kernel)).trans q183
              have q209 : s207 256 17 = z3 := (t_s207 256 17 (show 4114 ∉ [4132] from by decide +kernel)).trans q184
              have q210 : s207 256 36 = z188 := (t_s207 256 36 (show 4133 ∉ [4132] from by decide +kernel)).trans e_z188.symm
              have q211 : s207 273 a.toNat = z177 := (t_s207 273 a.toNat (show 5184 ∉ [4132] from by decide +kernel)).trans q186
              have q212 : s207 274 a.toNat = z180 := (t_s207 274 a.toNat (show 5248 ∉ [4132] from by decide +kernel)).trans q187
              have Ra_s207 : JRc s207 a := JRc.fl Ra_s182 t_s207 (by decide +kernel)
              have RC_s207 : RCk s207 s0 a := RCk.fl RC_s182 t_s207 (by decide +kernel)
              obtain ⟨z213, e_z213⟩ : ∃ z, z = s207 256 35 := ⟨_, rfl⟩
              have g_z213 : (-2147483648) ≤ s207 256 35 ∧ s207 256 35 ≤ 2147483647 := hG_s207 256 35
              show xe none 186 151 [(4, vi z171), (3, vi z11), (0, .ref 256), (1, vi a), (2, vi b)] [vi z206] s207 0 0 _
              exact x_iret k186_151 rfl ⟨hG_s207, f_s207, z206, rfl, (by first | exact x_rbe e_z206 g_z206 rfl rfl | exact x_rb g_z206 rfl rfl | exact ⟨by omega, by omega⟩), ⟨(by unfold ClR; have c1 := c0.1 (by omega); clear c0; exact ⟨by omega, fun w => by omega, fun w => by omega⟩), ⟨fun hb => by omega, fun hz => by exfalso; omega⟩⟩, Ra_s207, RC_s207⟩
          · skip
            refine x_A k186_130 (fun _ => rfl) ?_
            exact x_iret k186_132 rfl ⟨hG_s172, f_s172, z171, rfl, (by first | exact x_rbe e_z171 g_z171 rfl rfl | exact x_rb g_z171 rfl rfl | exact ⟨by omega, by omega⟩), ⟨(by unfold ClR; have c0 := cl_rs (i := 8 * b) (R := s0 256 17) (show kwd (s0 283) (s0 256 34) (sk (s0 283) (s0 256 34) (s0 256 36)) ≠ -1 by omega) (by omega); have f0_ := F.1; have c1 := c0.1 (by omega); exact ⟨by omega, fun w => by rw [c1.2]; exact F.2.1 (by omega), fun w => by omega⟩), ⟨fun hb => by omega, fun hz => by exfalso; omega⟩⟩, Ra_s172, RCn_s172⟩
      · skip
        refine x_A k186_50 (fun _ => rfl) ?_
        refine x_A k186_51 (fun _ => rfl) ?_
        refine x_callV k186_52 (y := 184) (n := 1) (w0 := 0) (w1 := 1) (as := [vi a]) (rest := []) (by decide +kernel) (q := 256) (nq := 62) (kq := 15) ⟨by decide, rfl⟩ rfl rfl rfl rfl (xe_mono (E_X11_readSense_256 s23 hG_s23 a (by first | exact x_rb b_a rfl rfl | exact ⟨by omega, by omega⟩) (by omega) Ra_s23 RCk.rf) ?_)
        rintro s215 v ⟨hG_s215, t_s215, z214, rfl, g_z214, xp_z214, Ra_s215, RC_s215⟩
        have f_s215 : FL [4133, 4136, 4132, 4134, 4135, 5120, 5184, 5248] s0 s215 := f_s23.tr t_s215 (by decide +kernel)
        have q216 : s215 256 34 = z1 := (t_s215 256 34 (show 4131 ∉ [4133, 4136, 4132, 4134, 4135, 5184, 5248] from by decide +kernel)).trans q24
        have q217 : s215 256 17 = z3 := (t_s215 256 17 (show 4114 ∉ [4133, 4136, 4132, 4134, 4135, 5184, 5248] from by decide +kernel)).trans q26
        obtain ⟨z218, e_z218⟩ : ∃ z, z = s215 256 36 := ⟨_, rfl⟩
        have g_z218 : (0 : Int) ≤ s215 256 36 ∧ s215 256 36 ≤ 160 := hG_s215 256 36
        obtain ⟨z219, e_z219⟩ : ∃ z, z = s215 256 35 := ⟨_, rfl⟩
        have g_z219 : (-2147483648) ≤ s215 256 35 ∧ s215 256 35 ≤ 2147483647 := hG_s215 256 35
        show xe none 186 55 [(4, vi 0), (3, vi z11), (0, .ref 256), (1, vi a), (2, vi b)] [vi z214] s215 0 0 _
        have RCn_s215 : RCk s215 s0 a := fun j hj => ⟨(RC_s215 j hj).1.trans (RC_s23 j hj).1, (RC_s215 j hj).2.1.trans (RC_s23 j hj).2.1, (RC_s215 j hj).2.2.trans (RC_s23 j hj).2.2⟩
        have rr := xp_z214.1
        rw [show s23 283 = s0 283 from funext fun i => f_s23 283 i (show 5824 ∉ [4133, 4136, 4132, 4134, 4135, 5120, 5184, 5248] from by decide +kernel), show s23 256 34 = s0 256 34 from f_s23 256 34 (show 4131 ∉ [4133, 4136, 4132, 4134, 4135, 5120, 5184, 5248] from by decide +kernel), show s23 256 36 = te (s0 283) (s0 256 34) (sk (s0 283) (s0 256 34) (s0 256 36)) by omega, show s23 256 17 = s0 256 17 by omega] at rr
        have F := RsR.q (p := sk (s0 283) (s0 256 34) (s0 256 36)) rr (by omega)
        rw [show s23 256 35 = s0 256 35 by omega] at F
        clear rr
        have xq := xp_z214.2
        clear xp_z214
        obtain ⟨z220, e_z220⟩ : ∃ z, z = s215 273 a.toNat := ⟨_, rfl⟩
        have g_z220 : (-2147483648) ≤ s215 273 a.toNat ∧ s215 273 a.toNat ≤ 2147483647 := hG_s215 273 a.toNat
        refine x_istore k186_55 (ls' := [(4, vi z214), (3, vi z11), (0, .ref 256), (1, vi a), (2, vi b)]) (by decide) rfl ?_
        refine x_goto k186_57 (t := 125) rfl ?_
        refine x_A k186_125 (fun _ => rfl) ?_
        refine x_if_le k186_127 (t := 133) rfl (by first | exact x_rbe e_z214 g_z214 rfl rfl | exact x_rb g_z214 rfl rfl | exact ⟨by omega, by omega⟩) (fun c221 => ?_) (fun c221 => ?_)
        · skip
          refine x_A k186_133 (fun _ => rfl) ?_
          obtain ⟨z223, e_z223⟩ : ∃ z, z = s215 274 a.toNat := ⟨_, rfl⟩
          have g_z223 : (-2147483648) ≤ s215 274 a.toNat ∧ s215 274 a.toNat ≤ 2147483647 := hG_s215 274 a.toNat
          have F0 := F.2.2 (by omega)
          refine x_callV k186_134 (y := 176) (n := 0) (w0 := 0) (w1 := 0) (as := []) (rest := []) (by decide +kernel) (q := 256) (nq := 62) (kq := 15) ⟨by decide, rfl⟩ rfl rfl rfl rfl (xe_mono (E_X11_here_256 s215 hG_s215 (by omega)) ?_)
          rintro s225 v ⟨hG_s225, t_s225, z224, rfl, g_z224, xp_z224⟩
          have f_s225 : FL [4133, 4136, 4132, 4134, 4135, 5120, 5184, 5248] s0 s225 := f_s215.tr t_s225 (by decide +kernel)
          have q226 : s225 256 34 = z1 := (t_s225 256 34 (show 4131 ∉ [4133] from by decide +kernel)).trans q216
          have q227 : s225 256 17 = z3 := (t_s225 256 17 (show 4114 ∉ [4133] from by decide +kernel)).trans q217
          have q228 : s225 256 35 = z219 := (t_s225 256 35 (show 4132 ∉ [4133] from by decide +kernel)).trans e_z219.symm
          have q229 : s225 273 a.toNat = z220 := (t_s225 273 a.toNat (show 5184 ∉ [4133] from by decide +kernel)).trans e_z220.symm
          have q230 : s225 274 a.toNat = z223 := (t_s225 274 a.toNat (show 5248 ∉ [4133] from by decide +kernel)).trans e_z223.symm
          have Ra_s225 : JRc s225 a := JRc.fl Ra_s215 t_s225 (by decide +kernel)
          have RC_s225 : RCk s225 s0 a := RCk.fl RCn_s215 t_s225 (by decide +kernel)
          obtain ⟨z231, e_z231⟩ : ∃ z, z = s225 256 36 := ⟨_, rfl⟩
          have g_z231 : (0 : Int) ≤ s225 256 36 ∧ s225 256 36 ≤ 160 := hG_s225 256 36
          show xe none 186 137 [(4, vi z214), (3, vi z11), (0, .ref 256), (1, vi a), (2, vi b)] [vi z224] s225 0 0 _
          have h5 := xp_z224
          clear xp_z224
          rw [show s215 283 = s0 283 from funext fun i => f_s215 283 i (show 5824 ∉ [4133, 4136, 4132, 4134, 4135, 5120, 5184, 5248] from by decide +kernel), show s215 256 34 = s0 256 34 from f_s215 256 34 (show 4131 ∉ [4133, 4136, 4132, 4134, 4135, 5120, 5184, 5248] from by decide +kernel), F0.1] at h5
          have f0_ := F.1
          have c0 := (cl_rs (i := 8 * b) (R := s0 256 17) (show kwd (s0 283) (s0 256 34) (sk (s0 283) (s0 256 34) (s0 256 36)) ≠ -1 by omega) (by omega)).2 (by omega)
          have ql := (sk_le (T := s0 283) (n := s0 256 34) (p := s215 256 36)).1
          rw [F0.1] at ql
          refine x_bipush k186_137 (by decide +kernel) ?_
          refine x_ic_eq k186_139 (t := 152) rfl (by first | exact x_rbe e_z224 g_z224 rfl rfl | exact x_rb g_z224 rfl rfl | exact ⟨by omega, by omega⟩) ⟨by decide, by decide⟩ (fun c232 => ?_) (fun c232 => ?_)
          · skip
            refine x_A k186_152 (fun _ => rfl) ?_
            refine x_A k186_153 (fun _ => rfl) ?_
            refine x_getI k186_154 (f := 36) rfl (q := 256) (n := 62) (kd := 15) ⟨by decide, rfl⟩ (by decide) rfl ?_
            refine x_rw (e_z231.symm) ?_
            refine x_A k186_157 (fun _ => rfl) ?_
            refine x_iadd k186_158 ?_
            refine x_top (fun z233 e_z233 => ?_)
            refine x_putI k186_159 (f := 36) rfl (q := 256) (n := 62) (kd := 15) ⟨by decide, rfl⟩ rfl rfl rfl ?_
            refine x_nh (fun s234 e_s234 => ?_)
            have hG_s234 : GI s234 := by rw [e_s234]; exact hG_s225.up (show 0 ≤ z233 ∧ z233 ≤ 160 from (by first | exact x_rbe e_z233 g_z233 rfl rfl | exact x_rb g_z233 rfl rfl | exact ⟨by omega, by omega⟩))
            have f_s234 : FL [4133, 4136, 4132, 4134, 4135, 5120, 5184, 5248] s0 s234 := by rw [e_s234]; exact f_s225.up (show 4133 ∈ [4133, 4136, 4132, 4134, 4135, 5120, 5184, 5248] from by decide +kernel)
            have q235 : s234 256 34 = z1 := by rw [e_s234, x_up_i (by decide)]; exact q226
            have q236 : s234 256 17 = z3 := by rw [e_s234, x_up_i (by decide)]; exact q227
            have q237 : s234 256 35 = z219 := by rw [e_s234, x_up_i (by decide)]; exact q228
            have q238 : s234 256 36 = z233 := by rw [e_s234]; exact x_up_same
            have q239 : s234 273 a.toNat = z220 := by rw [e_s234, x_up_q (by first | decide | omega)]; exact q229
            have q240 : s234 274 a.toNat = z223 := by rw [e_s234, x_up_q (by first | decide | omega)]; exact q230
            have Ra_s234 : JRc s234 a := by rw [e_s234]; exact JRc.up Ra_s225 (show 4133 ∉ [5120, 5184] from by decide +kernel)
            have RC_s234 : RCk s234 s0 a := by rw [e_s234]; exact RCk.up RC_s225 (show 4133 ∉ LRC from by decide)
            refine x_A k186_162 (fun _ => rfl) ?_
            refine x_getR k186_163 (f := 21) rfl (q := 256) (n := 62) (kd := 15) ⟨by decide, rfl⟩ (q2 := 272) (by decide) rfl ?_
            refine x_A k186_166 (fun _ => rfl) ?_
            refine x_A k186_167 (fun _ => rfl) ?_
            refine x_iast k186_168 (q := 272) (n := 72) ⟨by decide, rfl⟩ (by decide) (by first | exact x_rbl b_a rfl rfl | exact ⟨by omega, by omega⟩) ?_
            refine x_nh (fun s241 e_s241 => ?_)
            have hG_s241 : GI s241 := by rw [e_s241]; exact hG_s234.up (show 0 ≤ z11 ∧ z11 ≤ 5 from (by first | exact x_rbe e_z11 g_z11 rfl rfl | exact x_rb g_z11 rfl rfl | exact ⟨by omega, by omega⟩))
            have f_s241 : FL [4133, 4136, 4132, 4134, 4135, 5120, 5184, 5248] s0 s241 := by rw [e_s241]; exact f_s234.up (show 5120 ∈ [4133, 4136, 4132, 4134, 4135, 5120, 5184, 5248] from by decide +kernel)
            have q242 : s241 256 34 = z1 := by rw [e_s241, x_up_q (by decide)]; exact q235
            have q243 : s241 256 17 = z3 := by rw [e_s241, x_up_q (by decide)]; exact q236
            have q244 : s241 256 35 = z219 := by rw [e_s241, x_up_q (by decide)]; exact q237
            have q245 : s241 256 36 = z233 := by rw [e_s241, x_up_q (by decide)]; exact q238
            have q246 : s241 273 a.toNat = z220 := by rw [e_s241, x_up_q (by first | decide | omega)]; exact q239
            have q247 : s241 274 a.toNat = z223 := by rw [e_s241, x_up_q (by first | decide | omega)]; exact q240
            have q248 : s241 272 a.toNat = z11 := by rw [e_s241]; exact x_up_same
            have Ra_s241 : JRc s241 a := by rw [e_s241]; exact JRc.st Ra_s234 (by omega)
            have RC_s241 : RCk s241 s0 a := by rw [e_s241]; exact RCk.st RC_s234
            refine x_A k186_169 (fun _ => rfl) ?_
            exact x_iret k186_170 rfl ⟨hG_s241, f_s241, 0, rfl, ⟨by decide, by decide⟩, ⟨(by unfold ClR; have c1 := c0.2 (by omega); clear c0; exact ⟨by omega, fun w => by omega, fun w => ⟨by rw [show s241 256 36 = clq (s0 283) (s0 256 34) (sk (s0 283) (s0 256 34) (s0 256 36)) + 1 by omega]; rfl, by omega, by omega, by omega, fun w => by have := F0.2.2.2.2.1 w; omega, by have := F0.2.2.2.2.2; omega⟩⟩), ⟨fun hb => by omega, fun _ => JRc.add Ra_s241 (by omega) (fun hk => by rw [q248] at hk; rw [q246]; omega)⟩⟩, Ra_s241, RC_s241⟩
          · skip
            refine x_A k186_142 (fun _ => rfl) ?_
            refine x_A k186_143 (fun _ => rfl) ?_
            refine x_A k186_144 (fun _ => rfl) ?_
            refine x_getI k186_145 (f := 36) rfl (q := 256) (n := 62) (kd := 15) ⟨by decide, rfl⟩ (by decide) rfl ?_
            refine x_rw (e_z231.symm) ?_
            refine x_callV k186_148 (y := 177) (n := 2) (w0 := 0) (w1 := 2) (as := [vi 1, vi z231]) (rest := []) (by decide +kernel) (q := 256) (nq := 62) (kq := 15) ⟨by decide, rfl⟩ rfl rfl rfl rfl (xe_mono (E_X11_fails_256 s225 hG_s225 1 ⟨by decide, by decide⟩ z231 (by first | exact x_rbe e_z231 g_z231 rfl rfl | exact x_rb g_z231 rfl rfl | exact ⟨by omega, by omega⟩)) ?_)
            rintro s250 v ⟨hG_s250, t_s250, z249, rfl, g_z249, xp_z249⟩
            have f_s250 : FL [4133, 4136, 4132, 4134, 4135, 5120, 5184, 5248] s0 s250 := f_s225.tr t_s250 (by decide +kernel)
            have q251 : s250 256 34 = z1 := (t_s250 256 34 (show 4131 ∉ [4132] from by decide +kernel)).trans q226
            have q252 : s250 256 17 = z3 := (t_s250 256 17 (show 4114 ∉ [4132] from by decide +kernel)).trans q227
            have q253 : s250 256 36 = z231 := (t_s250 256 36 (show 4133 ∉ [4132] from by decide +kernel)).trans e_z231.symm
            have q254 : s250 273 a.toNat = z220 := (t_s250 273 a.toNat (show 5184 ∉ [4132] from by decide +kernel)).trans q229
            have q255 : s250 274 a.toNat = z223 := (t_s250 274 a.toNat (show 5248 ∉ [4132] from by decide +kernel)).trans q230
            have Ra_s250 : JRc s250 a := JRc.fl Ra_s225 t_s250 (by decide +kernel)
            have RC_s250 : RCk s250 s0 a := RCk.fl RC_s225 t_s250 (by decide +kernel)
            obtain ⟨z256, e_z256⟩ : ∃ z, z = s250 256 35 := ⟨_, rfl⟩
            have g_z256 : (-2147483648) ≤ s250 256 35 ∧ s250 256 35 ≤ 2147483647 := hG_s250 256 35
            show xe none 186 151 [(4, vi z214), (3, vi z11), (0, .ref 256), (1, vi a), (2, vi b)] [vi z249] s250 0 0 _
            exact x_iret k186_151 rfl ⟨hG_s250, f_s250, z249, rfl, (by first | exact x_rbe e_z249 g_z249 rfl rfl | exact x_rb g_z249 rfl rfl | exact ⟨by omega, by omega⟩), ⟨(by unfold ClR; have c1 := c0.1 (by omega); clear c0; exact ⟨by omega, fun w => by omega, fun w => by omega⟩), ⟨fun hb => by omega, fun hz => by exfalso; omega⟩⟩, Ra_s250, RC_s250⟩
        · skip
          refine x_A k186_130 (fun _ => rfl) ?_
          exact x_iret k186_132 rfl ⟨hG_s215, f_s215, z214, rfl, (by first | exact x_rbe e_z214 g_z214 rfl rfl | exact x_rb g_z214 rfl rfl | exact ⟨by omega, by omega⟩), ⟨(by unfold ClR; have c0 := cl_rs (i := 8 * b) (R := s0 256 17) (show kwd (s0 283) (s0 256 34) (sk (s0 283) (s0 256 34) (s0 256 36)) ≠ -1 by omega) (by omega); have f0_ := F.1; have c1 := c0.1 (by omega); exact ⟨by omega, fun w => by rw [c1.2]; exact F.2.1 (by omega), fun w => by omega⟩), ⟨fun hb => by omega, fun hz => by exfalso; omega⟩⟩, Ra_s215, RCn_s215⟩
    · skip
      refine x_A k186_17 (fun _ => rfl) ?_
      refine x_A k186_18 (fun _ => rfl) ?_
      refine x_if_ge k186_19 (t := 26) rfl (by first | exact x_rbe e_z11 g_z11 rfl rfl | exact x_rb g_z11 rfl rfl | exact ⟨by omega, by omega⟩) (fun c257 => ?_) (fun c257 => by exfalso; omega)
      refine x_A k186_26 (fun _ => rfl) ?_
      refine x_A k186_27 (fun _ => rfl) ?_
      refine x_getI k186_28 (f := 36) rfl (q := 256) (n := 62) (kd := 15) ⟨by decide, rfl⟩ (by decide) rfl ?_
      refine x_rw (e_z9.symm) ?_
      refine x_callV k186_31 (y := 177) (n := 2) (w0 := 0) (w1 := 2) (as := [vi 4, vi z9]) (rest := []) (by decide +kernel) (q := 256) (nq := 62) (kq := 15) ⟨by decide, rfl⟩ rfl rfl rfl rfl (xe_mono (E_X11_fails_256 s5 hG_s5 4 ⟨by decide, by decide⟩ z9 (by first | exact x_rbe e_z9 g_z9 rfl rfl | exact x_rb g_z9 rfl rfl | exact ⟨by omega, by omega⟩)) ?_)
      rintro s259 v ⟨hG_s259, t_s259, z258, rfl, g_z258, xp_z258⟩
      have f_s259 : FL [4133, 4136, 4132, 4134, 4135, 5120, 5184, 5248] s0 s259 := f_s5.tr t_s259 (by decide +kernel)
      have q260 : s259 256 34 = z1 := (t_s259 256 34 (show 4131 ∉ [4132] from by decide +kernel)).trans q6
      have q261 : s259 256 17 = z3 := (t_s259 256 17 (show 4114 ∉ [4132] from by decide +kernel)).trans q8
      have q262 : s259 256 36 = z9 := (t_s259 256 36 (show 4133 ∉ [4132] from by decide +kernel)).trans e_z9.symm
      have q263 : s259 256 38 = z10 := (t_s259 256 38 (show 4135 ∉ [4132] from by decide +kernel)).trans e_z10.symm
      have Ra_s259 : JRc s259 a := JRc.fl Ra_s5 t_s259 (by decide +kernel)
      have RC_s259 : RCk s259 s0 a := RCk.fl RC_s5 t_s259 (by decide +kernel)
      obtain ⟨z264, e_z264⟩ : ∃ z, z = s259 256 35 := ⟨_, rfl⟩
      have g_z264 : (-2147483648) ≤ s259 256 35 ∧ s259 256 35 ≤ 2147483647 := hG_s259 256 35
      show xe none 186 34 [(3, vi z11), (0, .ref 256), (1, vi a), (2, vi b)] [vi z258] s259 0 0 _
      exact x_iret k186_34 rfl ⟨hG_s259, f_s259, z258, rfl, (by first | exact x_rbe e_z258 g_z258 rfl rfl | exact x_rb g_z258 rfl rfl | exact ⟨by omega, by omega⟩), ⟨(by unfold ClR; have c1 := cl_8 (T := s0 283) (n := s0 256 34) (R := s0 256 17) (show kwd (s0 283) (s0 256 34) (sk (s0 283) (s0 256 34) (s0 256 36)) ≠ -1 by omega) (show 8 ≤ 8 * b by omega); exact ⟨by omega, fun w => by omega, fun w => by omega⟩), ⟨fun hb => by omega, fun hz => by exfalso; omega⟩⟩, Ra_s259, RC_s259⟩
