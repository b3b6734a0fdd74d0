set_option maxHeartbeats 8000000 in
theorem E_X11_readSense_256 (s0 : xS) (hG0 : GI s0) (a : Int) (b_a : 0 ≤ a ∧ a ≤ 71) (pa2 : s0 256 36 ≤ s0 256 34) (i0_Ra : JRc s0 a) (i0_RC : RCk s0 s0 a) : xe none 184 0 (lv_args 0 [.ref 256, vi a]) [] s0 0 0 (fun s' v => GI s' ∧ FL [4133, 4136, 4132, 4134, 4135, 5184, 5248] s0 s' ∧ ∃ z, v = some (vi z) ∧ (0 ≤ z ∧ z ≤ 5) ∧ (RsR s0 s' (s0 283) (s0 256 34) (sk (s0 283) (s0 256 34) (s0 256 36)) 1 (s0 256 17) a z ∧ (z = 0 → 0 ≤ s' 273 a.toNat ∧ s' 273 a.toNat ≤ 5)) ∧ JRc s' a ∧ RCk s' s0 a) := by
  have f0 : FL [4133, 4136, 4132, 4134, 4135, 5184, 5248] s0 s0 := FL.rf
  show xe none 184 0 [(0, .ref 256), (1, vi a)] [] s0 0 0 _
  have sl := sk_le (T := s0 283) (n := s0 256 34) (p := s0 256 36)
  have tl := te_le (T := s0 283) (n := s0 256 34) (p := sk (s0 283) (s0 256 34) (s0 256 36))
  obtain ⟨z1, e_z1⟩ : ∃ z, z = s0 256 34 := ⟨_, rfl⟩
  have g_z1 : (0 : Int) ≤ s0 256 34 ∧ s0 256 34 ≤ 160 := hG0 256 34
  obtain ⟨z2, e_z2⟩ : ∃ z, z = s0 256 35 := ⟨_, rfl⟩
  have g_z2 : (-2147483648) ≤ s0 256 35 ∧ s0 256 35 ≤ 2147483647 := hG0 256 35
  refine x_A k184_0 (fun _ => rfl) ?_
  refine x_A k184_1 (fun _ => rfl) ?_
  refine x_A k184_2 (fun _ => rfl) ?_
  refine x_A k184_3 (fun _ => rfl) ?_
  refine x_A k184_4 (fun _ => rfl) ?_
  refine x_callV k184_5 (y := 180) (n := 4) (w0 := 0) (w1 := 4) (as := [vi 0, vi 5, vi 2, vi 2]) (rest := []) (by decide +kernel) (q := 256) (nq := 62) (kq := 15) ⟨by decide, rfl⟩ rfl rfl rfl rfl (xe_mono (E_X11_readNumber_256 s0 hG0 0 ⟨by decide, by decide⟩ 5 ⟨by decide, by decide⟩ 2 ⟨by decide, by decide⟩ 2 ⟨by decide, by decide⟩ (by omega)) ?_)
  rintro s4 v ⟨hG_s4, t_s4, z3, rfl, g_z3, xp_z3⟩
  have f_s4 : FL [4133, 4136, 4132, 4134, 4135, 5184, 5248] s0 s4 := f0.tr t_s4 (by decide +kernel)
  have q5 : s4 256 34 = z1 := (t_s4 256 34 (show 4131 ∉ [4133, 4136, 4132] from by decide +kernel)).trans e_z1.symm
  have Ra_s4 : JRc s4 a := JRc.fl i0_Ra t_s4 (by decide +kernel)
  have RC_s4 : RCk s4 s0 a := RCk.fl i0_RC t_s4 (by decide +kernel)
  obtain ⟨z6, e_z6⟩ : ∃ z, z = s4 256 36 := ⟨_, rfl⟩
  have g_z6 : (0 : Int) ≤ s4 256 36 ∧ s4 256 36 ≤ 160 := hG_s4 256 36
  obtain ⟨z7, e_z7⟩ : ∃ z, z = s4 256 39 := ⟨_, rfl⟩
  have g_z7 : (0 : Int) ≤ s4 256 39 ∧ s4 256 39 ≤ 1100000 := hG_s4 256 39
  obtain ⟨z8, e_z8⟩ : ∃ z, z = s4 256 35 := ⟨_, rfl⟩
  have g_z8 : (-2147483648) ≤ s4 256 35 ∧ s4 256 35 ≤ 2147483647 := hG_s4 256 35
  show xe none 184 8 [(0, .ref 256), (1, vi a)] [vi z3] s4 0 0 _
  have n1 := xp_z3
  refine x_istore_n k184_8 (ls' := [(2, vi z3), (0, .ref 256), (1, vi a)]) (by decide) rfl ?_
  refine x_A k184_9 (fun _ => rfl) ?_
  refine x_if_le k184_10 (t := 15) rfl (by first | exact x_rbe e_z3 g_z3 rfl rfl | exact x_rb g_z3 rfl rfl | exact ⟨by omega, by omega⟩) (fun c9 => ?_) (fun c9 => ?_)
  · skip
    refine x_A k184_15 (fun _ => rfl) ?_
    refine x_getR k184_16 (f := 22) rfl (q := 256) (n := 62) (kd := 15) ⟨by decide, rfl⟩ (q2 := 273) (by decide) rfl ?_
    refine x_A k184_19 (fun _ => rfl) ?_
    refine x_A k184_20 (fun _ => rfl) ?_
    refine x_getI k184_21 (f := 39) rfl (q := 256) (n := 62) (kd := 15) ⟨by decide, rfl⟩ (by decide) rfl ?_
    refine x_rw (e_z7.symm) ?_
    refine x_iast k184_24 (q := 273) (n := 72) ⟨by decide, rfl⟩ (by decide) (by first | exact x_rbl b_a rfl rfl | exact ⟨by omega, by omega⟩) ?_
    refine x_nh (fun s10 e_s10 => ?_)
    have hG_s10 : GI s10 := by rw [e_s10]; exact hG_s4.up (show (-2147483648) ≤ z7 ∧ z7 ≤ 2147483647 from (by first | exact x_rbe e_z7 g_z7 rfl rfl | exact x_rb g_z7 rfl rfl | exact ⟨by omega, by omega⟩))
    have f_s10 : FL [4133, 4136, 4132, 4134, 4135, 5184, 5248] s0 s10 := by rw [e_s10]; exact f_s4.up (show 5184 ∈ [4133, 4136, 4132, 4134, 4135, 5184, 5248] from by decide +kernel)
    have q11 : s10 256 34 = z1 := by rw [e_s10, x_up_q (by decide)]; exact q5
    have q12 : s10 256 36 = z6 := by rw [e_s10, x_up_q (by decide)]; exact e_z6.symm
    have q13 : s10 256 39 = z7 := by rw [e_s10, x_up_q (by decide)]; exact e_z7.symm
    have q14 : s10 256 35 = z8 := by rw [e_s10, x_up_q (by decide)]; exact e_z8.symm
    have q15 : s10 273 a.toNat = z7 := by rw [e_s10]; exact x_up_same
    have Ra_s10 : JRc s10 a := by rw [e_s10]; exact JRc.st Ra_s4 (by omega)
    have RC_s10 : RCk s10 s0 a := by rw [e_s10]; exact RCk.st RC_s4
    refine x_A k184_25 (fun _ => rfl) ?_
    refine x_callV k184_26 (y := 178) (n := 0) (w0 := 0) (w1 := 0) (as := []) (rest := []) (by decide +kernel) (q := 256) (nq := 62) (kq := 15) ⟨by decide, rfl⟩ rfl rfl rfl rfl (xe_mono (E_X11_readWord_256 s10 hG_s10 (by omega)) ?_)
    rintro s17 v ⟨hG_s17, t_s17, rfl, xp_z16⟩
    have f_s17 : FL [4133, 4136, 4132, 4134, 4135, 5184, 5248] s0 s17 := f_s10.tr t_s17 (by decide +kernel)
    have q18 : s17 256 34 = z1 := (t_s17 256 34 (show 4131 ∉ [4133, 4134, 4135] from by decide +kernel)).trans q11
    have q19 : s17 256 39 = z7 := (t_s17 256 39 (show 4136 ∉ [4133, 4134, 4135] from by decide +kernel)).trans q13
    have q20 : s17 256 35 = z8 := (t_s17 256 35 (show 4132 ∉ [4133, 4134, 4135] from by decide +kernel)).trans q14
    have q21 : s17 273 a.toNat = z7 := (t_s17 273 a.toNat (show 5184 ∉ [4133, 4134, 4135] from by decide +kernel)).trans q15
    have Ra_s17 : JRc s17 a := JRc.fl Ra_s10 t_s17 (by decide +kernel)
    have RC_s17 : RCk s17 s0 a := RCk.fl RC_s10 t_s17 (by decide +kernel)
    obtain ⟨z22, e_z22⟩ : ∃ z, z = s17 256 36 := ⟨_, rfl⟩
    have g_z22 : (0 : Int) ≤ s17 256 36 ∧ s17 256 36 ≤ 160 := hG_s17 256 36
    obtain ⟨z23, e_z23⟩ : ∃ z, z = s17 256 38 := ⟨_, rfl⟩
    have g_z23 : (0 : Int) ≤ s17 256 38 ∧ s17 256 38 ≤ 160 := hG_s17 256 38
    show xe none 184 29 [(2, vi z3), (0, .ref 256), (1, vi a)] [] s17 0 0 _
    have v1 := xp_z16
    rw [show s10 283 = s0 283 from funext fun i => f_s10 283 i (show 5824 ∉ [4133, 4136, 4132, 4134, 4135, 5184, 5248] from by decide +kernel), show s10 256 34 = s0 256 34 from f_s10 256 34 (show 4131 ∉ [4133, 4136, 4132, 4134, 4135, 5184, 5248] from by decide +kernel), show s10 256 36 = te (s0 283) (s0 256 34) (sk (s0 283) (s0 256 34) (s0 256 36)) by omega] at v1
    have v2 : sk (s0 283) (s0 256 34) (te (s0 283) (s0 256 34) (sk (s0 283) (s0 256 34) (s0 256 36))) = nx (s0 283) (s0 256 34) (sk (s0 283) (s0 256 34) (s0 256 36)) := rfl
    rw [v2] at v1
    have wk : wv (s0 283) (s0 256 34) (nx (s0 283) (s0 256 34) (sk (s0 283) (s0 256 34) (s0 256 36))) ≠ 0 → _ := wv_kd (T := s0 283) (n := s0 256 34) (p := nx (s0 283) (s0 256 34) (sk (s0 283) (s0 256 34) (s0 256 36)))
    have tl2 := te_le (T := s0 283) (n := s0 256 34) (p := nx (s0 283) (s0 256 34) (sk (s0 283) (s0 256 34) (s0 256 36)))
    have sl2 := sk_le (T := s0 283) (n := s0 256 34) (p := te (s0 283) (s0 256 34) (sk (s0 283) (s0 256 34) (s0 256 36)))
    refine x_A k184_29 (fun _ => rfl) ?_
    refine x_callV k184_30 (y := 182) (n := 0) (w0 := 0) (w1 := 0) (as := []) (rest := []) (by decide +kernel) (q := 256) (nq := 62) (kq := 15) ⟨by decide, rfl⟩ rfl rfl rfl rfl (xe_mono (E_X11_senseOf_256 s17 hG_s17) ?_)
    rintro s25 v ⟨-, t_s25, z24, rfl, g_z24, xp_z24⟩
    rw [t_s25.nil]
    try rw [t_s25.nil] at xp_z24
    show xe none 184 33 [(2, vi z3), (0, .ref 256), (1, vi a)] [vi z24] s17 0 0 _
    have sn_z24 : z24 = sns (s0 283) (s0 256 34) (nx (s0 283) (s0 256 34) (sk (s0 283) (s0 256 34) (s0 256 36))) := by rw [xp_z24, v1.2.2.1]; rfl
    refine x_if_ge k184_33 (t := 46) rfl (by first | exact x_rbe e_z24 g_z24 rfl rfl | exact x_rb g_z24 rfl rfl | exact ⟨by omega, by omega⟩) (fun c26 => ?_) (fun c26 => ?_)
    · skip
      refine x_A k184_46 (fun _ => rfl) ?_
      refine x_getR k184_47 (f := 23) rfl (q := 256) (n := 62) (kd := 15) ⟨by decide, rfl⟩ (q2 := 274) (by decide) rfl ?_
      refine x_A k184_50 (fun _ => rfl) ?_
      refine x_A k184_51 (fun _ => rfl) ?_
      refine x_callV k184_52 (y := 182) (n := 0) (w0 := 2) (w1 := 0) (as := []) (rest := [vi a, .ref 274]) (by decide +kernel) (q := 256) (nq := 62) (kq := 15) ⟨by decide, rfl⟩ rfl rfl rfl rfl (xe_mono (E_X11_senseOf_256 s17 hG_s17) ?_)
      rintro s28 v ⟨-, t_s28, z27, rfl, g_z27, xp_z27⟩
      rw [t_s28.nil]
      try rw [t_s28.nil] at xp_z27
      show xe none 184 55 [(2, vi z3), (0, .ref 256), (1, vi a)] [vi z27, vi a, .ref 274] s17 0 0 _
      have sn_z27 : z27 = sns (s0 283) (s0 256 34) (nx (s0 283) (s0 256 34) (sk (s0 283) (s0 256 34) (s0 256 36))) := by rw [xp_z27, v1.2.2.1]; rfl
      refine x_iast k184_55 (q := 274) (n := 72) ⟨by decide, rfl⟩ (by decide) (by first | exact x_rbl b_a rfl rfl | exact ⟨by omega, by omega⟩) ?_
      refine x_nh (fun s29 e_s29 => ?_)
      have hG_s29 : GI s29 := by rw [e_s29]; exact hG_s17.up (show (-2147483648) ≤ z27 ∧ z27 ≤ 2147483647 from (by first | exact x_rbe e_z27 g_z27 rfl rfl | exact x_rb g_z27 rfl rfl | exact ⟨by omega, by omega⟩))
      have f_s29 : FL [4133, 4136, 4132, 4134, 4135, 5184, 5248] s0 s29 := by rw [e_s29]; exact f_s17.up (show 5248 ∈ [4133, 4136, 4132, 4134, 4135, 5184, 5248] from by decide +kernel)
      have q30 : s29 256 34 = z1 := by rw [e_s29, x_up_q (by decide)]; exact q18
      have q31 : s29 256 39 = z7 := by rw [e_s29, x_up_q (by decide)]; exact q19
      have q32 : s29 256 35 = z8 := by rw [e_s29, x_up_q (by decide)]; exact q20
      have q33 : s29 256 36 = z22 := by rw [e_s29, x_up_q (by decide)]; exact e_z22.symm
      have q34 : s29 256 38 = z23 := by rw [e_s29, x_up_q (by decide)]; exact e_z23.symm
      have q35 : s29 273 a.toNat = z7 := by rw [e_s29, x_up_q (by first | decide | omega)]; exact q21
      have q36 : s29 274 a.toNat = z27 := by rw [e_s29]; exact x_up_same
      have Ra_s29 : JRc s29 a := by rw [e_s29]; exact JRc.up Ra_s17 (show 5248 ∉ [5120, 5184] from by decide +kernel)
      have RC_s29 : RCk s29 s0 a := by rw [e_s29]; exact RCk.st RC_s17
      refine x_A k184_56 (fun _ => rfl) ?_
      refine x_A k184_57 (fun _ => rfl) ?_
      refine x_getI k184_58 (f := 38) rfl (q := 256) (n := 62) (kd := 15) ⟨by decide, rfl⟩ (by decide) rfl ?_
      refine x_rw (q34) ?_
      refine x_putI k184_61 (f := 36) rfl (q := 256) (n := 62) (kd := 15) ⟨by decide, rfl⟩ rfl rfl rfl ?_
      refine x_nh (fun s37 e_s37 => ?_)
      have hG_s37 : GI s37 := by rw [e_s37]; exact hG_s29.up (show 0 ≤ z23 ∧ z23 ≤ 160 from (by first | exact x_rbe e_z23 g_z23 rfl rfl | exact x_rb g_z23 rfl rfl | exact ⟨by omega, by omega⟩))
      have f_s37 : FL [4133, 4136, 4132, 4134, 4135, 5184, 5248] s0 s37 := by rw [e_s37]; exact f_s29.up (show 4133 ∈ [4133, 4136, 4132, 4134, 4135, 5184, 5248] from by decide +kernel)
      have q38 : s37 256 34 = z1 := by rw [e_s37, x_up_i (by decide)]; exact q30
      have q39 : s37 256 39 = z7 := by rw [e_s37, x_up_i (by decide)]; exact q31
      have q40 : s37 256 35 = z8 := by rw [e_s37, x_up_i (by decide)]; exact q32
      have q41 : s37 256 38 = z23 := by rw [e_s37, x_up_i (by decide)]; exact q34
      have q42 : s37 256 36 = z23 := by rw [e_s37]; exact x_up_same
      have q43 : s37 273 a.toNat = z7 := by rw [e_s37, x_up_q (by first | decide | omega)]; exact q35
      have q44 : s37 274 a.toNat = z27 := by rw [e_s37, x_up_q (by first | decide | omega)]; exact q36
      have Ra_s37 : JRc s37 a := by rw [e_s37]; exact JRc.up Ra_s29 (show 4133 ∉ [5120, 5184] from by decide +kernel)
      have RC_s37 : RCk s37 s0 a := by rw [e_s37]; exact RCk.up RC_s29 (show 4133 ∉ LRC from by decide)
      refine x_A k184_64 (fun _ => rfl) ?_
      exact x_iret k184_65 rfl ⟨hG_s37, f_s37, 0, rfl, ⟨by decide, by decide⟩, ⟨(by have e1 := f1_1 (T := s0 283) (n := s0 256 34) (p := sk (s0 283) (s0 256 34) (s0 256 36)) (R := s0 256 17); have s1 := s2_1 (s0 283) (s0 256 34) (nx (s0 283) (s0 256 34) (sk (s0 283) (s0 256 34) (s0 256 36))); have sc := sns_cs (s0 283) (s0 256 34) (nx (s0 283) (s0 256 34) (sk (s0 283) (s0 256 34) (s0 256 36))); have r1 := rs_n (T := s0 283) (n := s0 256 34) (p := sk (s0 283) (s0 256 34) (s0 256 36)) (k := 1) (R := s0 256 17) (by omega); exact ⟨by omega, fun w => by omega, fun _ => ⟨by rw [show s37 256 36 = te (s0 283) (s0 256 34) (nx (s0 283) (s0 256 34) (sk (s0 283) (s0 256 34) (s0 256 36))) by omega]; exact (s1.1 (by omega)).2.2.symm, by omega, by omega, by omega, by omega, by omega⟩⟩), by omega⟩, Ra_s37, RC_s37⟩
    · skip
      refine x_A k184_36 (fun _ => rfl) ?_
      refine x_A k184_37 (fun _ => rfl) ?_
      refine x_A k184_38 (fun _ => rfl) ?_
      refine x_getI k184_39 (f := 36) rfl (q := 256) (n := 62) (kd := 15) ⟨by decide, rfl⟩ (by decide) rfl ?_
      refine x_rw (e_z22.symm) ?_
      refine x_callV k184_42 (y := 177) (n := 2) (w0 := 0) (w1 := 2) (as := [vi 1, vi z22]) (rest := []) (by decide +kernel) (q := 256) (nq := 62) (kq := 15) ⟨by decide, rfl⟩ rfl rfl rfl rfl (xe_mono (E_X11_fails_256 s17 hG_s17 1 ⟨by decide, by decide⟩ z22 (by first | exact x_rbe e_z22 g_z22 rfl rfl | exact x_rb g_z22 rfl rfl | exact ⟨by omega, by omega⟩)) ?_)
      rintro s46 v ⟨hG_s46, t_s46, z45, rfl, g_z45, xp_z45⟩
      have f_s46 : FL [4133, 4136, 4132, 4134, 4135, 5184, 5248] s0 s46 := f_s17.tr t_s46 (by decide +kernel)
      have q47 : s46 256 34 = z1 := (t_s46 256 34 (show 4131 ∉ [4132] from by decide +kernel)).trans q18
      have q48 : s46 256 39 = z7 := (t_s46 256 39 (show 4136 ∉ [4132] from by decide +kernel)).trans q19
      have q49 : s46 256 36 = z22 := (t_s46 256 36 (show 4133 ∉ [4132] from by decide +kernel)).trans e_z22.symm
      have q50 : s46 256 38 = z23 := (t_s46 256 38 (show 4135 ∉ [4132] from by decide +kernel)).trans e_z23.symm
      have q51 : s46 273 a.toNat = z7 := (t_s46 273 a.toNat (show 5184 ∉ [4132] from by decide +kernel)).trans q21
      have Ra_s46 : JRc s46 a := JRc.fl Ra_s17 t_s46 (by decide +kernel)
      have RC_s46 : RCk s46 s0 a := RCk.fl RC_s17 t_s46 (by decide +kernel)
      obtain ⟨z52, e_z52⟩ : ∃ z, z = s46 256 35 := ⟨_, rfl⟩
      have g_z52 : (-2147483648) ≤ s46 256 35 ∧ s46 256 35 ≤ 2147483647 := hG_s46 256 35
      show xe none 184 45 [(2, vi z3), (0, .ref 256), (1, vi a)] [vi z45] s46 0 0 _
      exact x_iret k184_45 rfl ⟨hG_s46, f_s46, z45, rfl, (by first | exact x_rbe e_z45 g_z45 rfl rfl | exact x_rb g_z45 rfl rfl | exact ⟨by omega, by omega⟩), ⟨(by have e1 := f1_1 (T := s0 283) (n := s0 256 34) (p := sk (s0 283) (s0 256 34) (s0 256 36)) (R := s0 256 17); have s1 := s2_1 (s0 283) (s0 256 34) (nx (s0 283) (s0 256 34) (sk (s0 283) (s0 256 34) (s0 256 36))); have sc := sns_cs (s0 283) (s0 256 34) (nx (s0 283) (s0 256 34) (sk (s0 283) (s0 256 34) (s0 256 36))); have r1 := rs_n (T := s0 283) (n := s0 256 34) (p := sk (s0 283) (s0 256 34) (s0 256 36)) (k := 1) (R := s0 256 17) (by omega); exact ⟨by omega, fun w => by omega, fun w => by omega⟩), by omega⟩, Ra_s46, RC_s46⟩
  · skip
    refine x_A k184_13 (fun _ => rfl) ?_
    exact x_iret k184_14 rfl ⟨hG_s4, f_s4, z3, rfl, (by first | exact x_rbe e_z3 g_z3 rfl rfl | exact x_rb g_z3 rfl rfl | exact ⟨by omega, by omega⟩), ⟨(by have e1 := f1_1 (T := s0 283) (n := s0 256 34) (p := sk (s0 283) (s0 256 34) (s0 256 36)) (R := s0 256 17); have s1 := s2_1 (s0 283) (s0 256 34) (nx (s0 283) (s0 256 34) (sk (s0 283) (s0 256 34) (s0 256 36))); have sc := sns_cs (s0 283) (s0 256 34) (nx (s0 283) (s0 256 34) (sk (s0 283) (s0 256 34) (s0 256 36))); have r1 := rs_y (T := s0 283) (n := s0 256 34) (p := sk (s0 283) (s0 256 34) (s0 256 36)) (k := 1) (R := s0 256 17) (by omega); exact ⟨by omega, fun w => by omega, fun w => by omega⟩), by omega⟩, Ra_s4, RC_s4⟩
