set_option maxHeartbeats 8000000 in
theorem V_X10_rule_0 (s0 : xS) (hG0 : GI s0) (a : Int) (b_a : (-2147483648) ≤ a ∧ a ≤ 2147483647) (i0_J : J s0) (i0_VCj : VCj s0) (i0_VCl : VCl s0) : xe none 105 0 (lv_args 0 [.ref 0, vi a]) [] s0 0 0 (fun s' v => GI s' ∧ FL [1219, 1220, 1221, 1222, 1223, 1600, 1728, 1856, 1408, 1472, 1350, 3276, 3277, 12, 1218] s0 s' ∧ ∃ z, v = some (vi z) ∧ ((-2147483648) ≤ z ∧ z ≤ 2147483647) ∧ (RuC s0 s' a z) ∧ J s' ∧ VCj s' ∧ VCl s') := by
  have f0 : FL [1219, 1220, 1221, 1222, 1223, 1600, 1728, 1856, 1408, 1472, 1350, 3276, 3277, 12, 1218] s0 s0 := FL.rf
  show xe none 105 0 [(0, .ref 0), (1, vi a)] [] s0 0 0 _
  obtain ⟨z1, e_z1⟩ : ∃ z, z = s0 179 5 := ⟨_, rfl⟩
  have g_z1 : (0 : Int) ≤ s0 179 5 ∧ s0 179 5 ≤ 8 := hG0 179 5
  refine x_A k105_0 (fun _ => rfl) ?_
  refine x_A k105_1 (fun _ => rfl) ?_
  refine x_bipush k105_2 (by decide +kernel) ?_
  refine x_callS k105_4 (y := 121) (n := 3) (w0 := 0) (w1 := 3) (as := [vi a, vi 0, vi 9]) (rest := []) (by decide +kernel) rfl rfl rfl rfl (xe_mono (C_X10_isWithin s0 hG0 a (by first | exact x_rb b_a rfl rfl | exact ⟨by omega, by omega⟩) 0 ⟨by decide, by decide⟩ 9 ⟨by decide, by decide⟩) ?_)
  rintro s3 v ⟨h_s3, z2, rfl, hz_z2⟩
  rw [h_s3]
  rcases hz_z2 with ⟨c_z2, e_z2⟩ | ⟨c_z2, e_z2⟩
  · rw [e_z2]
    show xe none 105 7 [(0, .ref 0), (1, vi a)] [vi 1] s0 0 0 _
    refine x_if_ne k105_7 (t := 14) rfl ⟨by decide, by decide⟩ (fun c4 => ?_) (fun c4 => by exfalso; omega)
    refine x_A k105_14 (fun _ => rfl) ?_
    refine x_getR k105_15 (f := 4) rfl (q := 0) (n := 12) (kd := 3) ⟨by decide, rfl⟩ (q2 := 179) (by decide) rfl ?_
    refine x_getI k105_18 (f := 5) rfl (q := 179) (n := 6) (kd := 8) ⟨by decide, rfl⟩ (by decide) rfl ?_
    refine x_rw (e_z1.symm) ?_
    refine x_bipush k105_21 (by decide +kernel) ?_
    refine x_ic_lt k105_23 (t := 30) rfl (by first | exact x_rbe e_z1 g_z1 rfl rfl | exact x_rb g_z1 rfl rfl | exact ⟨by omega, by omega⟩) ⟨by decide, by decide⟩ (fun c5 => ?_) (fun c5 => ?_)
    · skip
      refine x_A k105_30 (fun _ => rfl) ?_
      refine x_getR k105_31 (f := 9) rfl (q := 0) (n := 12) (kd := 3) ⟨by decide, rfl⟩ (q2 := 243) (by decide) rfl ?_
      refine x_callV k105_34 (y := 73) (n := 0) (w0 := 0) (w1 := 0) (as := []) (rest := []) (by decide +kernel) (q := 243) (nq := 13) (kq := 13) ⟨by decide, rfl⟩ rfl rfl rfl rfl (xe_mono (E_X8_forget_243 s0 hG0) ?_)
      rintro s7 v ⟨hG_s7, t_s7, rfl, xp_z6⟩
      have f_s7 : FL [1219, 1220, 1221, 1222, 1223, 1600, 1728, 1856, 1408, 1472, 1350, 3276, 3277, 12, 1218] s0 s7 := f0.tr t_s7 (by decide)
      have q8 : s7 179 5 = z1 := (t_s7 179 5 (show 1350 ∉ [3276, 3277] from by decide)).trans e_z1.symm
      have J_s7 : J s7 := J.fl i0_J t_s7 (by decide)
      obtain ⟨z9, e_z9⟩ : ∃ z, z = s7 243 11 := ⟨_, rfl⟩
      have g_z9 : (0 : Int) ≤ s7 243 11 ∧ s7 243 11 ≤ 1 := hG_s7 243 11
      obtain ⟨z10, e_z10⟩ : ∃ z, z = s7 243 12 := ⟨_, rfl⟩
      have g_z10 : (-1) ≤ s7 243 12 ∧ s7 243 12 ≤ 9 := hG_s7 243 12
      show xe none 105 37 [(0, .ref 0), (1, vi a)] [] s7 0 0 _
      refine x_A k105_37 (fun _ => rfl) ?_
      refine x_getR k105_38 (f := 4) rfl (q := 0) (n := 12) (kd := 3) ⟨by decide, rfl⟩ (q2 := 179) (by decide) rfl ?_
      refine x_getI k105_41 (f := 5) rfl (q := 179) (n := 6) (kd := 8) ⟨by decide, rfl⟩ (by decide) rfl ?_
      refine x_rw (q8) ?_
      refine x_istore_n k105_44 (ls' := [(2, vi z1), (0, .ref 0), (1, vi a)]) (by decide) rfl ?_
      refine x_A k105_45 (fun _ => rfl) ?_
      refine x_getR k105_46 (f := 4) rfl (q := 0) (n := 12) (kd := 3) ⟨by decide, rfl⟩ (q2 := 179) (by decide) rfl ?_
      refine x_A k105_49 (fun _ => rfl) ?_
      refine x_getR k105_50 (f := 3) rfl (q := 0) (n := 12) (kd := 3) ⟨by decide, rfl⟩ (q2 := 177) (by decide) rfl ?_
      refine x_A k105_53 (fun _ => rfl) ?_
      refine x_callV k105_54 (y := 35) (n := 2) (w0 := 0) (w1 := 2) (as := [.ref 177, vi a]) (rest := []) (by decide +kernel) (q := 179) (nq := 6) (kq := 8) ⟨by decide, rfl⟩ rfl rfl rfl rfl (xe_mono (E_X4_read_179_177 s7 hG_s7 a (by first | exact x_rb b_a rfl rfl | exact ⟨by omega, by omega⟩) ⟨by omega, by omega⟩ J_s7) ?_)
      rintro s12 v ⟨hG_s12, t_s12, rfl, xp_z11, J_s12⟩
      have f_s12 : FL [1219, 1220, 1221, 1222, 1223, 1600, 1728, 1856, 1408, 1472, 1350, 3276, 3277, 12, 1218] s0 s12 := f_s7.tr t_s12 (by decide)
      have q13 : s12 243 11 = z9 := (t_s12 243 11 (show 3276 ∉ [1219, 1220, 1221, 1222, 1223, 1600, 1728, 1856, 1408, 1472, 1350] from by decide)).trans e_z9.symm
      have q14 : s12 243 12 = z10 := (t_s12 243 12 (show 3277 ∉ [1219, 1220, 1221, 1222, 1223, 1600, 1728, 1856, 1408, 1472, 1350] from by decide)).trans e_z10.symm
      obtain ⟨z15, e_z15⟩ : ∃ z, z = s12 177 5 := ⟨_, rfl⟩
      have g_z15 : (0 : Int) ≤ s12 177 5 ∧ s12 177 5 ≤ 5 := hG_s12 177 5
      obtain ⟨z16, e_z16⟩ : ∃ z, z = s12 177 6 := ⟨_, rfl⟩
      have g_z16 : (-2147483648) ≤ s12 177 6 ∧ s12 177 6 ≤ 2147483647 := hG_s12 177 6
      show xe none 105 57 [(2, vi z1), (0, .ref 0), (1, vi a)] [] s12 0 0 _
      refine x_A k105_57 (fun _ => rfl) ?_
      refine x_A k105_58 (fun _ => rfl) ?_
      refine x_callV k105_59 (y := 128) (n := 1) (w0 := 0) (w1 := 1) (as := [vi z1]) (rest := []) (by decide +kernel) (q := 0) (nq := 12) (kq := 3) ⟨by decide, rfl⟩ rfl rfl rfl rfl (xe_mono (E_X10_afterReading_0 s12 hG_s12 z1 (by first | exact x_rbe e_z1 g_z1 rfl rfl | exact x_rb g_z1 rfl rfl | exact ⟨by omega, by omega⟩)) ?_)
      rintro s18 v ⟨hG_s18, t_s18, z17, rfl, g_z17, xp_z17⟩
      have f_s18 : FL [1219, 1220, 1221, 1222, 1223, 1600, 1728, 1856, 1408, 1472, 1350, 3276, 3277, 12, 1218] s0 s18 := f_s12.tr t_s18 (by decide)
      have q19 : s18 243 11 = z9 := (t_s18 243 11 (show 3276 ∉ [12, 1218] from by decide)).trans q13
      have q20 : s18 243 12 = z10 := (t_s18 243 12 (show 3277 ∉ [12, 1218] from by decide)).trans q14
      have q21 : s18 177 5 = z15 := (t_s18 177 5 (show 1222 ∉ [12, 1218] from by decide)).trans e_z15.symm
      have q22 : s18 177 6 = z16 := (t_s18 177 6 (show 1223 ∉ [12, 1218] from by decide)).trans e_z16.symm
      have J_s18 : J s18 := J.fl J_s12 t_s18 (by decide)
      obtain ⟨z23, e_z23⟩ : ∃ z, z = s18 0 11 := ⟨_, rfl⟩
      have g_z23 : (-2147483648) ≤ s18 0 11 ∧ s18 0 11 ≤ 2147483647 := hG_s18 0 11
      obtain ⟨z24, e_z24⟩ : ∃ z, z = s18 177 1 := ⟨_, rfl⟩
      have g_z24 : (0 : Int) ≤ s18 177 1 ∧ s18 177 1 ≤ 160 := hG_s18 177 1
      show xe none 105 62 [(2, vi z1), (0, .ref 0), (1, vi a)] [vi z17] s18 0 0 _
      have VCj_r : VCj s18 := (VCj.no (show s18 243 11 = 0 by omega))
      have VCl_r : VCl s18 := (VCl.no (show s18 243 12 = -1 by omega))
      exact x_iret k105_62 rfl ⟨hG_s18, f_s18, z17, rfl, (by first | exact x_rbe e_z17 g_z17 rfl rfl | exact x_rb g_z17 rfl rfl | exact ⟨by omega, by omega⟩), (by unfold RuC; exact Or.inr (Or.inr ⟨by omega, by omega, RdC.cg t_s7 (by decide) xp_z11 t_s18 (by decide) ⟨by omega, by omega⟩, by omega, by omega⟩)), J_s18, VCj_r, VCl_r⟩
    · skip
      refine x_sipush k105_26 (by decide +kernel) ?_
      obtain ⟨z25, e_z25⟩ : ∃ z, z = s0 177 1 := ⟨_, rfl⟩
      have g_z25 : (0 : Int) ≤ s0 177 1 ∧ s0 177 1 ≤ 160 := hG0 177 1
      obtain ⟨z26, e_z26⟩ : ∃ z, z = s0 177 5 := ⟨_, rfl⟩
      have g_z26 : (0 : Int) ≤ s0 177 5 ∧ s0 177 5 ≤ 5 := hG0 177 5
      obtain ⟨z27, e_z27⟩ : ∃ z, z = s0 177 6 := ⟨_, rfl⟩
      have g_z27 : (-2147483648) ≤ s0 177 6 ∧ s0 177 6 ≤ 2147483647 := hG0 177 6
      obtain ⟨z28, e_z28⟩ : ∃ z, z = s0 0 11 := ⟨_, rfl⟩
      have g_z28 : (-2147483648) ≤ s0 0 11 ∧ s0 0 11 ≤ 2147483647 := hG0 0 11
      exact x_iret k105_29 rfl ⟨hG0, f0, (-1004), rfl, ⟨by decide, by decide⟩, (by unfold RuC; exact Or.inr (Or.inl ⟨by omega, by omega, rfl, rfl⟩)), i0_J, i0_VCj, i0_VCl⟩
  · rw [e_z2]
    show xe none 105 7 [(0, .ref 0), (1, vi a)] [vi 0] s0 0 0 _
    refine x_if_ne k105_7 (t := 14) rfl ⟨by decide, by decide⟩ (fun c29 => by exfalso; omega) (fun c29 => ?_)
    refine x_sipush k105_10 (by decide +kernel) ?_
    obtain ⟨z30, e_z30⟩ : ∃ z, z = s0 177 1 := ⟨_, rfl⟩
    have g_z30 : (0 : Int) ≤ s0 177 1 ∧ s0 177 1 ≤ 160 := hG0 177 1
    obtain ⟨z31, e_z31⟩ : ∃ z, z = s0 177 5 := ⟨_, rfl⟩
    have g_z31 : (0 : Int) ≤ s0 177 5 ∧ s0 177 5 ≤ 5 := hG0 177 5
    obtain ⟨z32, e_z32⟩ : ∃ z, z = s0 177 6 := ⟨_, rfl⟩
    have g_z32 : (-2147483648) ≤ s0 177 6 ∧ s0 177 6 ≤ 2147483647 := hG0 177 6
    obtain ⟨z33, e_z33⟩ : ∃ z, z = s0 0 11 := ⟨_, rfl⟩
    have g_z33 : (-2147483648) ≤ s0 0 11 ∧ s0 0 11 ≤ 2147483647 := hG0 0 11
    exact x_iret k105_13 rfl ⟨hG0, f0, (-1002), rfl, ⟨by decide, by decide⟩, (by unfold RuC; exact Or.inl ⟨by omega, rfl, rfl⟩), i0_J, i0_VCj, i0_VCl⟩
