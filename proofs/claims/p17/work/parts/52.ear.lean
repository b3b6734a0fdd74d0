set_option maxHeartbeats 8000000 in
theorem E_X0_readNumber_177 (s0 : xS) (hG0 : GI s0) (a : Int) (b_a : (-2147483648) ≤ a ∧ a ≤ 2147483647) (i0_TK : TKs s0) : xe none 7 0 (lv_args 0 [.ref 177, vi a]) [] s0 0 0 (fun s' v => GI s' ∧ FL [1219, 1220, 1221, 1222, 1223] s0 s' ∧ ∃ z, v = some (vi z) ∧ ((-2147483648) ≤ z ∧ z ≤ 2147483647) ∧ (((1 ≤ a ∧ a ≤ 5) → LnC s0 s' a) ∧ (¬ (1 ≤ a ∧ a ≤ 5) → s' 177 5 = s0 177 5 ∧ s' 177 6 = s0 177 6)) ∧ TKs s') := by
  have f0 : FL [1219, 1220, 1221, 1222, 1223] s0 s0 := FL.rf
  show xe none 7 0 [(0, .ref 177), (1, vi a)] [] s0 0 0 _
  refine x_A k7_0 (fun _ => rfl) ?_
  have c1 : a = 1 ∨ a = 2 ∨ a = 3 ∨ a = 4 ∨ a = 5 ∨ ¬ (1 ≤ a ∧ a ≤ 5) := by omega
  rcases c1 with c1 | c1 | c1 | c1 | c1 | c1
  · rw [c1]
    refine x_B k7_1 rfl (fun _ => rfl) (fun _ => rfl) (fun _ _ => rfl) ?_
    show xe none 7 36 [(0, .ref 177), (1, vi 1)] [] s0 0 0 _
    refine x_A k7_36 (fun _ => rfl) ?_
    refine x_A k7_37 (fun _ => rfl) ?_
    refine x_bipush k7_38 (by decide +kernel) ?_
    refine x_A k7_40 (fun _ => rfl) ?_
    refine x_callV k7_41 (y := 57) (n := 3) (w0 := 0) (w1 := 3) (as := [vi 0, vi 39, vi 3]) (rest := []) (by decide +kernel) (q := 177) (nq := 7) (kq := 7) ⟨by decide, rfl⟩ rfl rfl rfl rfl (xe_mono (E_X6_takeNumber_177 s0 hG0 0 ⟨by decide, by decide⟩ 39 ⟨by decide, by decide⟩ 3 ⟨by decide, by decide⟩ i0_TK) ?_)
    rintro s3 v ⟨hG_s3, t_s3, z2, rfl, g_z2, xp_z2, TK_s3⟩
    have f_s3 : FL [1219, 1220, 1221, 1222, 1223] s0 s3 := f0.tr t_s3 (by decide +kernel)
    obtain ⟨z4, e_z4⟩ : ∃ z, z = s3 177 3 := ⟨_, rfl⟩
    have g_z4 : (0 : Int) ≤ s3 177 3 ∧ s3 177 3 ≤ 160 := hG_s3 177 3
    obtain ⟨z5, e_z5⟩ : ∃ z, z = s3 177 5 := ⟨_, rfl⟩
    have g_z5 : (0 : Int) ≤ s3 177 5 ∧ s3 177 5 ≤ 5 := hG_s3 177 5
    obtain ⟨z6, e_z6⟩ : ∃ z, z = s3 177 6 := ⟨_, rfl⟩
    have g_z6 : (-2147483648) ≤ s3 177 6 ∧ s3 177 6 ≤ 2147483647 := hG_s3 177 6
    show xe none 7 44 [(0, .ref 177), (1, vi 1)] [vi z2] s3 0 0 _
    exact x_iret k7_44 rfl ⟨hG_s3, f_s3, z2, rfl, (by first | exact x_rbe e_z2 g_z2 rfl rfl | exact x_rb g_z2 rfl rfl | exact ⟨by omega, by omega⟩), ⟨fun h => (by (try rw [show a = 1 by omega]); exact LnC.one (by decide) rfl xp_z2.1), fun h => by exfalso; omega⟩, TK_s3⟩
  · rw [c1]
    refine x_B k7_1 rfl (fun _ => rfl) (fun _ => rfl) (fun _ _ => rfl) ?_
    show xe none 7 45 [(0, .ref 177), (1, vi 2)] [] s0 0 0 _
    refine x_bipush k7_45 (by decide +kernel) ?_
    refine x_A k7_47 (fun _ => rfl) ?_
    refine x_A k7_48 (fun _ => rfl) ?_
    refine x_A k7_49 (fun _ => rfl) ?_
    refine x_A k7_50 (fun _ => rfl) ?_
    refine x_callV k7_51 (y := 57) (n := 3) (w0 := 1) (w1 := 3) (as := [vi 0, vi 3, vi 3]) (rest := [vi 100]) (by decide +kernel) (q := 177) (nq := 7) (kq := 7) ⟨by decide, rfl⟩ rfl rfl rfl rfl (xe_mono (E_X6_takeNumber_177 s0 hG0 0 ⟨by decide, by decide⟩ 3 ⟨by decide, by decide⟩ 3 ⟨by decide, by decide⟩ i0_TK) ?_)
    rintro s8 v ⟨hG_s8, t_s8, z7, rfl, g_z7, xp_z7, TK_s8⟩
    have f_s8 : FL [1219, 1220, 1221, 1222, 1223] s0 s8 := f0.tr t_s8 (by decide +kernel)
    obtain ⟨z9, e_z9⟩ : ∃ z, z = s8 177 3 := ⟨_, rfl⟩
    have g_z9 : (0 : Int) ≤ s8 177 3 ∧ s8 177 3 ≤ 160 := hG_s8 177 3
    obtain ⟨z10, e_z10⟩ : ∃ z, z = s8 177 5 := ⟨_, rfl⟩
    have g_z10 : (0 : Int) ≤ s8 177 5 ∧ s8 177 5 ≤ 5 := hG_s8 177 5
    obtain ⟨z11, e_z11⟩ : ∃ z, z = s8 177 6 := ⟨_, rfl⟩
    have g_z11 : (-2147483648) ≤ s8 177 6 ∧ s8 177 6 ≤ 2147483647 := hG_s8 177 6
    show xe none 7 54 [(0, .ref 177), (1, vi 2)] [vi z7, vi 100] s8 0 0 _
    refine x_imul k7_54 ?_
    refine x_top (fun z12 e_z12 => ?_)
    refine x_A k7_55 (fun _ => rfl) ?_
    refine x_A k7_56 (fun _ => rfl) ?_
    refine x_bipush k7_57 (by decide +kernel) ?_
    refine x_A k7_59 (fun _ => rfl) ?_
    refine x_callV k7_60 (y := 57) (n := 3) (w0 := 1) (w1 := 3) (as := [vi 0, vi 99, vi 3]) (rest := [vi z12]) (by decide +kernel) (q := 177) (nq := 7) (kq := 7) ⟨by decide, rfl⟩ rfl rfl rfl rfl (xe_mono (E_X6_takeNumber_177 s8 hG_s8 0 ⟨by decide, by decide⟩ 99 ⟨by decide, by decide⟩ 3 ⟨by decide, by decide⟩ TK_s8) ?_)
    rintro s14 v ⟨hG_s14, t_s14, z13, rfl, g_z13, xp_z13, TK_s14⟩
    have f_s14 : FL [1219, 1220, 1221, 1222, 1223] s0 s14 := f_s8.tr t_s14 (by decide +kernel)
    obtain ⟨z15, e_z15⟩ : ∃ z, z = s14 177 3 := ⟨_, rfl⟩
    have g_z15 : (0 : Int) ≤ s14 177 3 ∧ s14 177 3 ≤ 160 := hG_s14 177 3
    obtain ⟨z16, e_z16⟩ : ∃ z, z = s14 177 5 := ⟨_, rfl⟩
    have g_z16 : (0 : Int) ≤ s14 177 5 ∧ s14 177 5 ≤ 5 := hG_s14 177 5
    obtain ⟨z17, e_z17⟩ : ∃ z, z = s14 177 6 := ⟨_, rfl⟩
    have g_z17 : (-2147483648) ≤ s14 177 6 ∧ s14 177 6 ≤ 2147483647 := hG_s14 177 6
    show xe none 7 63 [(0, .ref 177), (1, vi 2)] [vi z13, vi z12] s14 0 0 _
    refine x_iadd k7_63 ?_
    refine x_top (fun z18 e_z18 => ?_)
    exact x_iret k7_64 rfl ⟨hG_s14, f_s14, z18, rfl, (by first | exact x_rbe e_z18 g_z18 rfl rfl | exact x_rb g_z18 rfl rfl | exact ⟨by omega, by omega⟩), ⟨fun h => (by (try rw [show a = 2 by omega]); exact LnC.two xp_z7.1 xp_z13.1 (funext fun i => f_s8 178 i (show 1280 ∉ [1219, 1220, 1221, 1222, 1223] from by decide +kernel)) (f_s8 177 1 (show 1218 ∉ [1219, 1220, 1221, 1222, 1223] from by decide +kernel))), fun h => by exfalso; omega⟩, TK_s14⟩
  · rw [c1]
    refine x_B k7_1 rfl (fun _ => rfl) (fun _ => rfl) (fun _ _ => rfl) ?_
    show xe none 7 65 [(0, .ref 177), (1, vi 3)] [] s0 0 0 _
    refine x_A k7_65 (fun _ => rfl) ?_
    refine x_A k7_66 (fun _ => rfl) ?_
    refine x_bipush k7_67 (by decide +kernel) ?_
    refine x_A k7_69 (fun _ => rfl) ?_
    refine x_callV k7_70 (y := 57) (n := 3) (w0 := 0) (w1 := 3) (as := [vi 0, vi 7, vi 3]) (rest := []) (by decide +kernel) (q := 177) (nq := 7) (kq := 7) ⟨by decide, rfl⟩ rfl rfl rfl rfl (xe_mono (E_X6_takeNumber_177 s0 hG0 0 ⟨by decide, by decide⟩ 7 ⟨by decide, by decide⟩ 3 ⟨by decide, by decide⟩ i0_TK) ?_)
    rintro s20 v ⟨hG_s20, t_s20, z19, rfl, g_z19, xp_z19, TK_s20⟩
    have f_s20 : FL [1219, 1220, 1221, 1222, 1223] s0 s20 := f0.tr t_s20 (by decide +kernel)
    obtain ⟨z21, e_z21⟩ : ∃ z, z = s20 177 3 := ⟨_, rfl⟩
    have g_z21 : (0 : Int) ≤ s20 177 3 ∧ s20 177 3 ≤ 160 := hG_s20 177 3
    obtain ⟨z22, e_z22⟩ : ∃ z, z = s20 177 5 := ⟨_, rfl⟩
    have g_z22 : (0 : Int) ≤ s20 177 5 ∧ s20 177 5 ≤ 5 := hG_s20 177 5
    obtain ⟨z23, e_z23⟩ : ∃ z, z = s20 177 6 := ⟨_, rfl⟩
    have g_z23 : (-2147483648) ≤ s20 177 6 ∧ s20 177 6 ≤ 2147483647 := hG_s20 177 6
    show xe none 7 73 [(0, .ref 177), (1, vi 3)] [vi z19] s20 0 0 _
    exact x_iret k7_73 rfl ⟨hG_s20, f_s20, z19, rfl, (by first | exact x_rbe e_z19 g_z19 rfl rfl | exact x_rb g_z19 rfl rfl | exact ⟨by omega, by omega⟩), ⟨fun h => (by (try rw [show a = 3 by omega]); exact LnC.one (by decide) rfl xp_z19.1), fun h => by exfalso; omega⟩, TK_s20⟩
  · rw [c1]
    refine x_B k7_1 rfl (fun _ => rfl) (fun _ => rfl) (fun _ _ => rfl) ?_
    show xe none 7 74 [(0, .ref 177), (1, vi 4)] [] s0 0 0 _
    refine x_A k7_74 (fun _ => rfl) ?_
    refine x_A k7_75 (fun _ => rfl) ?_
    refine x_sipush k7_76 (by decide +kernel) ?_
    refine x_A k7_79 (fun _ => rfl) ?_
    refine x_callV k7_80 (y := 57) (n := 3) (w0 := 0) (w1 := 3) (as := [vi 0, vi 999, vi 3]) (rest := []) (by decide +kernel) (q := 177) (nq := 7) (kq := 7) ⟨by decide, rfl⟩ rfl rfl rfl rfl (xe_mono (E_X6_takeNumber_177 s0 hG0 0 ⟨by decide, by decide⟩ 999 ⟨by decide, by decide⟩ 3 ⟨by decide, by decide⟩ i0_TK) ?_)
    rintro s25 v ⟨hG_s25, t_s25, z24, rfl, g_z24, xp_z24, TK_s25⟩
    have f_s25 : FL [1219, 1220, 1221, 1222, 1223] s0 s25 := f0.tr t_s25 (by decide +kernel)
    obtain ⟨z26, e_z26⟩ : ∃ z, z = s25 177 3 := ⟨_, rfl⟩
    have g_z26 : (0 : Int) ≤ s25 177 3 ∧ s25 177 3 ≤ 160 := hG_s25 177 3
    obtain ⟨z27, e_z27⟩ : ∃ z, z = s25 177 5 := ⟨_, rfl⟩
    have g_z27 : (0 : Int) ≤ s25 177 5 ∧ s25 177 5 ≤ 5 := hG_s25 177 5
    obtain ⟨z28, e_z28⟩ : ∃ z, z = s25 177 6 := ⟨_, rfl⟩
    have g_z28 : (-2147483648) ≤ s25 177 6 ∧ s25 177 6 ≤ 2147483647 := hG_s25 177 6
    show xe none 7 83 [(0, .ref 177), (1, vi 4)] [vi z24] s25 0 0 _
    exact x_iret k7_83 rfl ⟨hG_s25, f_s25, z24, rfl, (by first | exact x_rbe e_z24 g_z24 rfl rfl | exact x_rb g_z24 rfl rfl | exact ⟨by omega, by omega⟩), ⟨fun h => (by (try rw [show a = 4 by omega]); exact LnC.one (by decide) rfl xp_z24.1), fun h => by exfalso; omega⟩, TK_s25⟩
  · rw [c1]
    refine x_B k7_1 rfl (fun _ => rfl) (fun _ => rfl) (fun _ _ => rfl) ?_
    show xe none 7 84 [(0, .ref 177), (1, vi 5)] [] s0 0 0 _
    refine x_A k7_84 (fun _ => rfl) ?_
    refine x_A k7_85 (fun _ => rfl) ?_
    refine x_bipush k7_86 (by decide +kernel) ?_
    refine x_A k7_88 (fun _ => rfl) ?_
    refine x_callV k7_89 (y := 57) (n := 3) (w0 := 0) (w1 := 3) (as := [vi 0, vi 9, vi 3]) (rest := []) (by decide +kernel) (q := 177) (nq := 7) (kq := 7) ⟨by decide, rfl⟩ rfl rfl rfl rfl (xe_mono (E_X6_takeNumber_177 s0 hG0 0 ⟨by decide, by decide⟩ 9 ⟨by decide, by decide⟩ 3 ⟨by decide, by decide⟩ i0_TK) ?_)
    rintro s30 v ⟨hG_s30, t_s30, z29, rfl, g_z29, xp_z29, TK_s30⟩
    have f_s30 : FL [1219, 1220, 1221, 1222, 1223] s0 s30 := f0.tr t_s30 (by decide +kernel)
    obtain ⟨z31, e_z31⟩ : ∃ z, z = s30 177 3 := ⟨_, rfl⟩
    have g_z31 : (0 : Int) ≤ s30 177 3 ∧ s30 177 3 ≤ 160 := hG_s30 177 3
    obtain ⟨z32, e_z32⟩ : ∃ z, z = s30 177 5 := ⟨_, rfl⟩
    have g_z32 : (0 : Int) ≤ s30 177 5 ∧ s30 177 5 ≤ 5 := hG_s30 177 5
    obtain ⟨z33, e_z33⟩ : ∃ z, z = s30 177 6 := ⟨_, rfl⟩
    have g_z33 : (-2147483648) ≤ s30 177 6 ∧ s30 177 6 ≤ 2147483647 := hG_s30 177 6
    show xe none 7 92 [(0, .ref 177), (1, vi 5)] [vi z29] s30 0 0 _
    exact x_iret k7_92 rfl ⟨hG_s30, f_s30, z29, rfl, (by first | exact x_rbe e_z29 g_z29 rfl rfl | exact x_rb g_z29 rfl rfl | exact ⟨by omega, by omega⟩), ⟨fun h => (by (try rw [show a = 5 by omega]); exact LnC.one (by decide) rfl xp_z29.1), fun h => by exfalso; omega⟩, TK_s30⟩
  · refine x_tabD k7_1 ⟨by omega, by omega⟩ c1 (t0 := 93) rfl ?_
    refine x_A k7_93 (fun _ => rfl) ?_
    obtain ⟨z34, e_z34⟩ : ∃ z, z = s0 177 3 := ⟨_, rfl⟩
    have g_z34 : (0 : Int) ≤ s0 177 3 ∧ s0 177 3 ≤ 160 := hG0 177 3
    obtain ⟨z35, e_z35⟩ : ∃ z, z = s0 177 5 := ⟨_, rfl⟩
    have g_z35 : (0 : Int) ≤ s0 177 5 ∧ s0 177 5 ≤ 5 := hG0 177 5
    obtain ⟨z36, e_z36⟩ : ∃ z, z = s0 177 6 := ⟨_, rfl⟩
    have g_z36 : (-2147483648) ≤ s0 177 6 ∧ s0 177 6 ≤ 2147483647 := hG0 177 6
    exact x_iret k7_94 rfl ⟨hG0, f0, (-1), rfl, ⟨by decide, by decide⟩, ⟨fun h => by exfalso; omega, fun h => by omega⟩, i0_TK⟩
set_option maxHeartbeats 8000000 in
theorem E_X0_readOne_218_177 (s0 : xS) (hG0 : GI s0) (pe : s0 177 5 = 0 → AI (s0 178) (s0 177 1) 1 (s0 218 5) (s0 177 3) ∧ wv (s0 178) (s0 177 1) (s0 177 3) ≠ 10631 ∧ ch (s0 178) (s0 177 1) (s0 177 3) ≠ 40) (i0_TK : TKs s0) : xe none 5 0 (lv_args 0 [.ref 218, .ref 177]) [] s0 0 0 (fun s' v => GI s' ∧ FL [2560, 2688, 1219, 1220, 1221, 1222, 1223] s0 s' ∧ v = none ∧ ((s0 177 5 ≠ 0 ∧ s' 177 5 = s0 177 5 ∧ s' 177 6 = s0 177 6) ∨ (s0 177 5 = 0 ∧ ((s' 177 5 = 0 ∧ AI (s0 178) (s0 177 1) 0 (s0 218 5) (s' 177 3) ∧ s0 177 3 + 2 ≤ s' 177 3) ∨ (s' 177 5 ≠ 0 ∧ AF (s0 178) (s0 177 1) (s' 177 5) (s' 177 6))))) ∧ TKs s') := by
  have f0 : FL [2560, 2688, 1219, 1220, 1221, 1222, 1223] s0 s0 := FL.rf
  show xe none 5 0 [(0, .ref 218), (1, .ref 177)] [] s0 0 0 _
  have tk := i0_TK
  unfold TKs TK at tk
  have tl := te_le (T := s0 178) (n := s0 177 1) (p := s0 177 3)
  obtain ⟨z1, e_z1⟩ : ∃ z, z = s0 177 1 := ⟨_, rfl⟩
  have g_z1 : (0 : Int) ≤ s0 177 1 ∧ s0 177 1 ≤ 160 := hG0 177 1
  obtain ⟨z2, e_z2⟩ : ∃ z, z = s0 177 3 := ⟨_, rfl⟩
  have g_z2 : (0 : Int) ≤ s0 177 3 ∧ s0 177 3 ≤ 160 := hG0 177 3
  obtain ⟨z3, e_z3⟩ : ∃ z, z = s0 177 5 := ⟨_, rfl⟩
  have g_z3 : (0 : Int) ≤ s0 177 5 ∧ s0 177 5 ≤ 5 := hG0 177 5
  obtain ⟨z4, e_z4⟩ : ∃ z, z = s0 177 6 := ⟨_, rfl⟩
  have g_z4 : (-2147483648) ≤ s0 177 6 ∧ s0 177 6 ≤ 2147483647 := hG0 177 6
  obtain ⟨z5, e_z5⟩ : ∃ z, z = s0 179 5 := ⟨_, rfl⟩
  have g_z5 : (0 : Int) ≤ s0 179 5 ∧ s0 179 5 ≤ 8 := hG0 179 5
  refine x_A k5_0 (fun _ => rfl) ?_
  refine x_getI k5_1 (f := 5) rfl (q := 177) (n := 7) (kd := 7) ⟨by decide, rfl⟩ (by decide) rfl ?_
  refine x_rw (e_z3.symm) ?_
  refine x_if_eq k5_4 (t := 8) rfl (by first | exact x_rbe e_z3 g_z3 rfl rfl | exact x_rb g_z3 rfl rfl | exact ⟨by omega, by omega⟩) (fun c6 => ?_) (fun c6 => ?_)
  · skip
    refine x_A k5_8 (fun _ => rfl) ?_
    refine x_callS k5_9 (y := 6) (n := 1) (w0 := 0) (w1 := 1) (as := [.ref 177]) (rest := []) (by decide +kernel) rfl rfl rfl rfl (xe_mono (E_X0_oneKind_177 s0 hG0 i0_TK) ?_)
    rintro s8 v ⟨-, t_s8, z7, rfl, g_z7, xp_z7⟩
    rw [t_s8.nil]
    try rw [t_s8.nil] at xp_z7
    show xe none 5 12 [(0, .ref 218), (1, .ref 177)] [vi z7] s0 0 0 _
    have lc := lkd_r xp_z7
    clear xp_z7
    refine x_istore_n k5_12 (ls' := [(2, vi z7), (0, .ref 218), (1, .ref 177)]) (by decide) rfl ?_
    refine x_A k5_13 (fun _ => rfl) ?_
    refine x_A k5_14 (fun _ => rfl) ?_
    refine x_ic_ne k5_15 (t := 30) rfl (by first | exact x_rbe e_z7 g_z7 rfl rfl | exact x_rb g_z7 rfl rfl | exact ⟨by omega, by omega⟩) ⟨by decide, by decide⟩ (fun c9 => ?_) (fun c9 => ?_)
    · skip
      refine x_A k5_30 (fun _ => rfl) ?_
      obtain ⟨z10, e_z10⟩ : ∃ z, z = s0 177 4 := ⟨_, rfl⟩
      have g_z10 : (0 : Int) ≤ s0 177 4 ∧ s0 177 4 ≤ 160 := hG0 177 4
      refine x_callV k5_31 (y := 51) (n := 0) (w0 := 0) (w1 := 0) (as := []) (rest := []) (by decide +kernel) (q := 177) (nq := 7) (kq := 7) ⟨by decide, rfl⟩ rfl rfl rfl rfl (xe_mono (E_X6_advance_177 s0 hG0 (by omega)) ?_)
      rintro s12 v ⟨hG_s12, t_s12, rfl, xp_z11⟩
      have f_s12 : FL [2560, 2688, 1219, 1220, 1221, 1222, 1223] s0 s12 := f0.tr t_s12 (by decide +kernel)
      have q13 : s12 177 1 = z1 := (t_s12 177 1 (show 1218 ∉ [1219, 1220, 1221] from by decide +kernel)).trans e_z1.symm
      have q14 : s12 177 5 = z3 := (t_s12 177 5 (show 1222 ∉ [1219, 1220, 1221] from by decide +kernel)).trans e_z3.symm
      have q15 : s12 177 6 = z4 := (t_s12 177 6 (show 1223 ∉ [1219, 1220, 1221] from by decide +kernel)).trans e_z4.symm
      have q16 : s12 179 5 = z5 := (t_s12 179 5 (show 1350 ∉ [1219, 1220, 1221] from by decide +kernel)).trans e_z5.symm
      show xe none 5 34 [(2, vi z7), (0, .ref 218), (1, .ref 177)] [] s12 0 0 _
      have tq17 := xp_z11
      rw [show s0 177 4 = te (s0 178) (s0 177 1) (s0 177 3) by omega] at tq17
      have TK_s12 : TKs s12 := TK.s tq17 (show s12 178 = s0 178 from funext fun i => f_s12 178 i (show 1280 ∉ [2560, 2688, 1219, 1220, 1221, 1222, 1223] from by decide +kernel)) (by omega)
      unfold TK at tq17
      obtain ⟨z18, e_z18⟩ : ∃ z, z = s12 177 3 := ⟨_, rfl⟩
      have g_z18 : (0 : Int) ≤ s12 177 3 ∧ s12 177 3 ≤ 160 := hG_s12 177 3
      have w2 := wv_2 (T := s0 178) (n := s0 177 1) (p := s0 177 3) (by omega)
      refine x_A k5_34 (fun _ => rfl) ?_
      refine x_A k5_35 (fun _ => rfl) ?_
      refine x_callS k5_36 (y := 7) (n := 2) (w0 := 0) (w1 := 2) (as := [.ref 177, vi z7]) (rest := []) (by decide +kernel) rfl rfl rfl rfl (xe_mono (E_X0_readNumber_177 s12 hG_s12 z7 (by first | exact x_rbe e_z7 g_z7 rfl rfl | exact x_rb g_z7 rfl rfl | exact ⟨by omega, by omega⟩) TK_s12) ?_)
      rintro s20 v ⟨hG_s20, t_s20, z19, rfl, g_z19, xp_z19, TK_s20⟩
      have f_s20 : FL [2560, 2688, 1219, 1220, 1221, 1222, 1223] s0 s20 := f_s12.tr t_s20 (by decide +kernel)
      have q21 : s20 177 1 = z1 := (t_s20 177 1 (show 1218 ∉ [1219, 1220, 1221, 1222, 1223] from by decide +kernel)).trans q13
      have q22 : s20 179 5 = z5 := (t_s20 179 5 (show 1350 ∉ [1219, 1220, 1221, 1222, 1223] from by decide +kernel)).trans q16
      obtain ⟨z23, e_z23⟩ : ∃ z, z = s20 177 3 := ⟨_, rfl⟩
      have g_z23 : (0 : Int) ≤ s20 177 3 ∧ s20 177 3 ≤ 160 := hG_s20 177 3
      obtain ⟨z24, e_z24⟩ : ∃ z, z = s20 177 5 := ⟨_, rfl⟩
      have g_z24 : (0 : Int) ≤ s20 177 5 ∧ s20 177 5 ≤ 5 := hG_s20 177 5
      obtain ⟨z25, e_z25⟩ : ∃ z, z = s20 177 6 := ⟨_, rfl⟩
      have g_z25 : (-2147483648) ≤ s20 177 6 ∧ s20 177 6 ≤ 2147483647 := hG_s20 177 6
      show xe none 5 39 [(2, vi z7), (0, .ref 218), (1, .ref 177)] [vi z19] s20 0 0 _
      have l1 := xp_z19.1 (by omega)
      rw [show z7 = lkd (s0 178) (s0 177 1) (s0 177 3) by omega] at l1
      have l2 := LnC.lf l1 (show s12 178 = s0 178 from funext fun i => f_s12 178 i (show 1280 ∉ [2560, 2688, 1219, 1220, 1221, 1222, 1223] from by decide +kernel)) (f_s12 177 1 (show 1218 ∉ [2560, 2688, 1219, 1220, 1221, 1222, 1223] from by decide +kernel)) (by unfold nx; omega) (by omega) (by omega) (pe (by omega)).1 (pe (by omega)).2.1 (pe (by omega)).2.2
      refine x_istore_n k5_39 (ls' := [(3, vi z19), (2, vi z7), (0, .ref 218), (1, .ref 177)]) (by decide) rfl ?_
      refine x_A k5_40 (fun _ => rfl) ?_
      refine x_getI k5_41 (f := 5) rfl (q := 177) (n := 7) (kd := 7) ⟨by decide, rfl⟩ (by decide) rfl ?_
      refine x_rw (e_z24.symm) ?_
      refine x_if_ne k5_44 (t := 58) rfl (by first | exact x_rbe e_z24 g_z24 rfl rfl | exact x_rb g_z24 rfl rfl | exact ⟨by omega, by omega⟩) (fun c26 => ?_) (fun c26 => ?_)
      · skip
        exact x_vret k5_58 rfl ⟨hG_s20, f_s20, rfl, Or.inr ⟨by omega, l2.elim (fun u => Or.inl ⟨by omega, by rw [show s20 177 3 = s20 177 3 by omega]; exact u.2.2.1, by omega⟩) (fun u => Or.inr ⟨by omega, by rw [show s20 177 5 = s20 177 5 by omega, show s20 177 6 = s20 177 6 by omega]; exact u.2⟩)⟩, TK_s20⟩
      · skip
        refine x_A k5_47 (fun _ => rfl) ?_
        refine x_A k5_48 (fun _ => rfl) ?_
        refine x_sipush k5_49 (by decide +kernel) ?_
        refine x_imul k5_52 ?_
        refine x_top (fun z27 e_z27 => ?_)
        refine x_A k5_53 (fun _ => rfl) ?_
        refine x_iadd k5_54 ?_
        refine x_topW (fun z28 g_z28 => ?_)
        unfold in32 at g_z28
        refine x_callV k5_55 (y := 13) (n := 1) (w0 := 0) (w1 := 1) (as := [vi z28]) (rest := []) (by decide +kernel) (q := 218) (nq := 7) (kq := 11) ⟨by decide, rfl⟩ rfl rfl rfl rfl (xe_mono (C_X0_emit_218 s20 hG_s20 z28 (by first | exact x_rbe e_z28 g_z28 rfl rfl | exact x_rb g_z28 rfl rfl | exact ⟨by omega, by omega⟩)) ?_)
        rintro s30 v ⟨hG_s30, t_s30, rfl⟩
        have f_s30 : FL [2560, 2688, 1219, 1220, 1221, 1222, 1223] s0 s30 := f_s20.tr t_s30 (by decide +kernel)
        have q31 : s30 177 1 = z1 := (t_s30 177 1 (show 1218 ∉ [2560, 2688] from by decide +kernel)).trans q21
        have q32 : s30 179 5 = z5 := (t_s30 179 5 (show 1350 ∉ [2560, 2688] from by decide +kernel)).trans q22
        have q33 : s30 177 3 = z23 := (t_s30 177 3 (show 1220 ∉ [2560, 2688] from by decide +kernel)).trans e_z23.symm
        have q34 : s30 177 5 = z24 := (t_s30 177 5 (show 1222 ∉ [2560, 2688] from by decide +kernel)).trans e_z24.symm
        have q35 : s30 177 6 = z25 := (t_s30 177 6 (show 1223 ∉ [2560, 2688] from by decide +kernel)).trans e_z25.symm
        have TK_s30 : TKs s30 := TKs.fl TK_s20 t_s30 (by decide +kernel)
        show xe none 5 58 [(3, vi z19), (2, vi z7), (0, .ref 218), (1, .ref 177)] [] s30 0 0 _
        exact x_vret k5_58 rfl ⟨hG_s30, f_s30, rfl, Or.inr ⟨by omega, l2.elim (fun u => Or.inl ⟨by omega, by rw [show s30 177 3 = s20 177 3 by omega]; exact u.2.2.1, by omega⟩) (fun u => Or.inr ⟨by omega, by rw [show s30 177 5 = s20 177 5 by omega, show s30 177 6 = s20 177 6 by omega]; exact u.2⟩)⟩, TK_s30⟩
    · skip
      refine x_A k5_18 (fun _ => rfl) ?_
      refine x_A k5_19 (fun _ => rfl) ?_
      refine x_A k5_20 (fun _ => rfl) ?_
      refine x_getI k5_21 (f := 3) rfl (q := 177) (n := 7) (kd := 7) ⟨by decide, rfl⟩ (by decide) rfl ?_
      refine x_rw (e_z2.symm) ?_
      refine x_callV k5_24 (y := 52) (n := 2) (w0 := 0) (w1 := 2) (as := [vi 1, vi z2]) (rest := []) (by decide +kernel) (q := 177) (nq := 7) (kq := 7) ⟨by decide, rfl⟩ rfl rfl rfl rfl (xe_mono (E_X6_fail_177 s0 hG0 1 ⟨by decide, by decide⟩ z2 (by first | exact x_rbe e_z2 g_z2 rfl rfl | exact x_rb g_z2 rfl rfl | exact ⟨by omega, by omega⟩)) ?_)
      rintro s37 v ⟨hG_s37, t_s37, rfl, xp_z36⟩
      have f_s37 : FL [2560, 2688, 1219, 1220, 1221, 1222, 1223] s0 s37 := f0.tr t_s37 (by decide +kernel)
      have q38 : s37 177 1 = z1 := (t_s37 177 1 (show 1218 ∉ [1222, 1223] from by decide +kernel)).trans e_z1.symm
      have q39 : s37 177 3 = z2 := (t_s37 177 3 (show 1220 ∉ [1222, 1223] from by decide +kernel)).trans e_z2.symm
      have q40 : s37 179 5 = z5 := (t_s37 179 5 (show 1350 ∉ [1222, 1223] from by decide +kernel)).trans e_z5.symm
      have TK_s37 : TKs s37 := TKs.fl i0_TK t_s37 (by decide +kernel)
      obtain ⟨z41, e_z41⟩ : ∃ z, z = s37 177 5 := ⟨_, rfl⟩
      have g_z41 : (0 : Int) ≤ s37 177 5 ∧ s37 177 5 ≤ 5 := hG_s37 177 5
      obtain ⟨z42, e_z42⟩ : ∃ z, z = s37 177 6 := ⟨_, rfl⟩
      have g_z42 : (-2147483648) ≤ s37 177 6 ∧ s37 177 6 ≤ 2147483647 := hG_s37 177 6
      show xe none 5 27 [(2, vi z7), (0, .ref 218), (1, .ref 177)] [] s37 0 0 _
      refine x_goto k5_27 (t := 34) rfl ?_
      refine x_A k5_34 (fun _ => rfl) ?_
      refine x_A k5_35 (fun _ => rfl) ?_
      refine x_callS k5_36 (y := 7) (n := 2) (w0 := 0) (w1 := 2) (as := [.ref 177, vi z7]) (rest := []) (by decide +kernel) rfl rfl rfl rfl (xe_mono (E_X0_readNumber_177 s37 hG_s37 z7 (by first | exact x_rbe e_z7 g_z7 rfl rfl | exact x_rb g_z7 rfl rfl | exact ⟨by omega, by omega⟩) TK_s37) ?_)
      rintro s44 v ⟨hG_s44, t_s44, z43, rfl, g_z43, xp_z43, TK_s44⟩
      have f_s44 : FL [2560, 2688, 1219, 1220, 1221, 1222, 1223] s0 s44 := f_s37.tr t_s44 (by decide +kernel)
      have q45 : s44 177 1 = z1 := (t_s44 177 1 (show 1218 ∉ [1219, 1220, 1221, 1222, 1223] from by decide +kernel)).trans q38
      have q46 : s44 179 5 = z5 := (t_s44 179 5 (show 1350 ∉ [1219, 1220, 1221, 1222, 1223] from by decide +kernel)).trans q40
      obtain ⟨z47, e_z47⟩ : ∃ z, z = s44 177 3 := ⟨_, rfl⟩
      have g_z47 : (0 : Int) ≤ s44 177 3 ∧ s44 177 3 ≤ 160 := hG_s44 177 3
      obtain ⟨z48, e_z48⟩ : ∃ z, z = s44 177 5 := ⟨_, rfl⟩
      have g_z48 : (0 : Int) ≤ s44 177 5 ∧ s44 177 5 ≤ 5 := hG_s44 177 5
      obtain ⟨z49, e_z49⟩ : ∃ z, z = s44 177 6 := ⟨_, rfl⟩
      have g_z49 : (-2147483648) ≤ s44 177 6 ∧ s44 177 6 ≤ 2147483647 := hG_s44 177 6
      show xe none 5 39 [(2, vi z7), (0, .ref 218), (1, .ref 177)] [vi z43] s44 0 0 _
      refine x_istore_n k5_39 (ls' := [(3, vi z43), (2, vi z7), (0, .ref 218), (1, .ref 177)]) (by decide) rfl ?_
      refine x_A k5_40 (fun _ => rfl) ?_
      refine x_getI k5_41 (f := 5) rfl (q := 177) (n := 7) (kd := 7) ⟨by decide, rfl⟩ (by decide) rfl ?_
      refine x_rw (e_z48.symm) ?_
      refine x_if_ne k5_44 (t := 58) rfl (by first | exact x_rbe e_z48 g_z48 rfl rfl | exact x_rb g_z48 rfl rfl | exact ⟨by omega, by omega⟩) (fun c50 => ?_) (fun c50 => ?_)
      · skip
        exact x_vret k5_58 rfl ⟨hG_s44, f_s44, rfl, Or.inr ⟨by omega, Or.inr ⟨by omega, (by have lf := lff_k (T := s0 178) (n := s0 177 1) (p := s0 177 3) (by omega); have q := (pe (by omega)).1.lfb (pe (by omega)).2.1 (pe (by omega)).2.2 (by omega); rw [lf.1, lf.2] at q; rw [show s44 177 5 = 1 by omega, show s44 177 6 = s0 177 3 by omega]; exact q)⟩⟩, TK_s44⟩
      · skip
        refine x_A k5_47 (fun _ => rfl) ?_
        refine x_A k5_48 (fun _ => rfl) ?_
        refine x_sipush k5_49 (by decide +kernel) ?_
        refine x_imul k5_52 ?_
        refine x_top (fun z51 e_z51 => ?_)
        refine x_A k5_53 (fun _ => rfl) ?_
        refine x_iadd k5_54 ?_
        refine x_topW (fun z52 g_z52 => ?_)
        unfold in32 at g_z52
        refine x_callV k5_55 (y := 13) (n := 1) (w0 := 0) (w1 := 1) (as := [vi z52]) (rest := []) (by decide +kernel) (q := 218) (nq := 7) (kq := 11) ⟨by decide, rfl⟩ rfl rfl rfl rfl (xe_mono (C_X0_emit_218 s44 hG_s44 z52 (by first | exact x_rbe e_z52 g_z52 rfl rfl | exact x_rb g_z52 rfl rfl | exact ⟨by omega, by omega⟩)) ?_)
        rintro s54 v ⟨hG_s54, t_s54, rfl⟩
        have f_s54 : FL [2560, 2688, 1219, 1220, 1221, 1222, 1223] s0 s54 := f_s44.tr t_s54 (by decide +kernel)
        have q55 : s54 177 1 = z1 := (t_s54 177 1 (show 1218 ∉ [2560, 2688] from by decide +kernel)).trans q45
        have q56 : s54 179 5 = z5 := (t_s54 179 5 (show 1350 ∉ [2560, 2688] from by decide +kernel)).trans q46
        have q57 : s54 177 3 = z47 := (t_s54 177 3 (show 1220 ∉ [2560, 2688] from by decide +kernel)).trans e_z47.symm
        have q58 : s54 177 5 = z48 := (t_s54 177 5 (show 1222 ∉ [2560, 2688] from by decide +kernel)).trans e_z48.symm
        have q59 : s54 177 6 = z49 := (t_s54 177 6 (show 1223 ∉ [2560, 2688] from by decide +kernel)).trans e_z49.symm
        have TK_s54 : TKs s54 := TKs.fl TK_s44 t_s54 (by decide +kernel)
        show xe none 5 58 [(3, vi z43), (2, vi z7), (0, .ref 218), (1, .ref 177)] [] s54 0 0 _
        exact x_vret k5_58 rfl ⟨hG_s54, f_s54, rfl, Or.inr ⟨by omega, Or.inr ⟨by omega, (by have lf := lff_k (T := s0 178) (n := s0 177 1) (p := s0 177 3) (by omega); have q := (pe (by omega)).1.lfb (pe (by omega)).2.1 (pe (by omega)).2.2 (by omega); rw [lf.1, lf.2] at q; rw [show s54 177 5 = 1 by omega, show s54 177 6 = s0 177 3 by omega]; exact q)⟩⟩, TK_s54⟩
  · skip
    exact x_vret k5_7 rfl ⟨hG0, f0, rfl, Or.inl ⟨by omega, by omega, by omega⟩, i0_TK⟩
set_option maxHeartbeats 8000000 in
theorem E_X0_openBracket_218_177 (s0 : xS) (hG0 : GI s0) (p_218_5 : 0 ≤ s0 218 5 ∧ s0 218 5 ≤ 6) : xe none 4 0 (lv_args 0 [.ref 218, .ref 177]) [] s0 0 0 (fun s' v => GI s' ∧ FL [2501, 2502, 2816, 1222, 1223] s0 s' ∧ v = none ∧ (s' 218 5 = s0 218 5 + 1 ∧ ((s0 218 5 < 5 ∧ s' 177 5 = s0 177 5 ∧ s' 177 6 = s0 177 6) ∨ (5 ≤ s0 218 5 ∧ ((s0 177 5 ≠ 0 ∧ s' 177 5 = s0 177 5 ∧ s' 177 6 = s0 177 6) ∨ (s0 177 5 = 0 ∧ s' 177 5 = 5 ∧ s' 177 6 = s0 177 3)))))) := by
  have f0 : FL [2501, 2502, 2816, 1222, 1223] s0 s0 := FL.rf
  show xe none 4 0 [(0, .ref 218), (1, .ref 177)] [] s0 0 0 _
  obtain ⟨z1, e_z1⟩ : ∃ z, z = s0 218 5 := ⟨_, rfl⟩
  have g_z1 : (-2147483648) ≤ s0 218 5 ∧ s0 218 5 ≤ 2147483647 := hG0 218 5
  obtain ⟨z2, e_z2⟩ : ∃ z, z = s0 177 3 := ⟨_, rfl⟩
  have g_z2 : (0 : Int) ≤ s0 177 3 ∧ s0 177 3 ≤ 160 := hG0 177 3
  obtain ⟨z3, e_z3⟩ : ∃ z, z = s0 177 5 := ⟨_, rfl⟩
  have g_z3 : (0 : Int) ≤ s0 177 5 ∧ s0 177 5 ≤ 5 := hG0 177 5
  obtain ⟨z4, e_z4⟩ : ∃ z, z = s0 177 6 := ⟨_, rfl⟩
  have g_z4 : (-2147483648) ≤ s0 177 6 ∧ s0 177 6 ≤ 2147483647 := hG0 177 6
  refine x_A k4_0 (fun _ => rfl) ?_
  refine x_getI k4_1 (f := 5) rfl (q := 218) (n := 7) (kd := 11) ⟨by decide, rfl⟩ (by decide) rfl ?_
  refine x_rw (e_z1.symm) ?_
  refine x_A k4_4 (fun _ => rfl) ?_
  refine x_ic_lt k4_5 (t := 17) rfl (by first | exact x_rbe e_z1 g_z1 rfl rfl | exact x_rb g_z1 rfl rfl | exact ⟨by omega, by omega⟩) ⟨by decide, by decide⟩ (fun c5 => ?_) (fun c5 => ?_)
  · skip
    refine x_A k4_17 (fun _ => rfl) ?_
    refine x_A k4_18 (fun _ => rfl) ?_
    refine x_getI k4_19 (f := 5) rfl (q := 218) (n := 7) (kd := 11) ⟨by decide, rfl⟩ (by decide) rfl ?_
    refine x_rw (e_z1.symm) ?_
    refine x_A k4_22 (fun _ => rfl) ?_
    refine x_iadd k4_23 ?_
    refine x_top (fun z6 e_z6 => ?_)
    refine x_putI k4_24 (f := 5) rfl (q := 218) (n := 7) (kd := 11) ⟨by decide, rfl⟩ rfl rfl rfl ?_
    refine x_nh (fun s7 e_s7 => ?_)
    have hG_s7 : GI s7 := by rw [e_s7]; exact hG0.up (show (-2147483648) ≤ z6 ∧ z6 ≤ 2147483647 from (by first | exact x_rbe e_z6 g_z6 rfl rfl | exact x_rb g_z6 rfl rfl | exact ⟨by omega, by omega⟩))
    have f_s7 : FL [2501, 2502, 2816, 1222, 1223] s0 s7 := by rw [e_s7]; exact f0.up (show 2502 ∈ [2501, 2502, 2816, 1222, 1223] from by decide +kernel)
    have q8 : s7 177 3 = z2 := by rw [e_s7, x_up_q (by decide)]; exact e_z2.symm
    have q9 : s7 177 5 = z3 := by rw [e_s7, x_up_q (by decide)]; exact e_z3.symm
    have q10 : s7 177 6 = z4 := by rw [e_s7, x_up_q (by decide)]; exact e_z4.symm
    have q11 : s7 218 5 = z6 := by rw [e_s7]; exact x_up_same
    refine x_A k4_27 (fun _ => rfl) ?_
    refine x_bipush k4_28 (by decide +kernel) ?_
    refine x_callV k4_30 (y := 11) (n := 1) (w0 := 0) (w1 := 1) (as := [vi 6]) (rest := []) (by decide +kernel) (q := 218) (nq := 7) (kq := 11) ⟨by decide, rfl⟩ rfl rfl rfl rfl (xe_mono (C_X0_hold_218 s7 hG_s7 6 ⟨by decide, by decide⟩) ?_)
    rintro s13 v ⟨hG_s13, t_s13, rfl⟩
    have f_s13 : FL [2501, 2502, 2816, 1222, 1223] s0 s13 := f_s7.tr t_s13 (by decide +kernel)
    have q14 : s13 177 3 = z2 := (t_s13 177 3 (show 1220 ∉ [2501, 2816] from by decide +kernel)).trans q8
    have q15 : s13 177 5 = z3 := (t_s13 177 5 (show 1222 ∉ [2501, 2816] from by decide +kernel)).trans q9
    have q16 : s13 177 6 = z4 := (t_s13 177 6 (show 1223 ∉ [2501, 2816] from by decide +kernel)).trans q10
    have q17 : s13 218 5 = z6 := (t_s13 218 5 (show 2502 ∉ [2501, 2816] from by decide +kernel)).trans q11
    show xe none 4 33 [(0, .ref 218), (1, .ref 177)] [] s13 0 0 _
    exact x_vret k4_33 rfl ⟨hG_s13, f_s13, rfl, by omega⟩
  · skip
    refine x_A k4_8 (fun _ => rfl) ?_
    refine x_A k4_9 (fun _ => rfl) ?_
    refine x_A k4_10 (fun _ => rfl) ?_
    refine x_getI k4_11 (f := 3) rfl (q := 177) (n := 7) (kd := 7) ⟨by decide, rfl⟩ (by decide) rfl ?_
    refine x_rw (e_z2.symm) ?_
    refine x_callV k4_14 (y := 52) (n := 2) (w0 := 0) (w1 := 2) (as := [vi 5, vi z2]) (rest := []) (by decide +kernel) (q := 177) (nq := 7) (kq := 7) ⟨by decide, rfl⟩ rfl rfl rfl rfl (xe_mono (E_X6_fail_177 s0 hG0 5 ⟨by decide, by decide⟩ z2 (by first | exact x_rbe e_z2 g_z2 rfl rfl | exact x_rb g_z2 rfl rfl | exact ⟨by omega, by omega⟩)) ?_)
    rintro s19 v ⟨hG_s19, t_s19, rfl, xp_z18⟩
    have f_s19 : FL [2501, 2502, 2816, 1222, 1223] s0 s19 := f0.tr t_s19 (by decide +kernel)
    have q20 : s19 218 5 = z1 := (t_s19 218 5 (show 2502 ∉ [1222, 1223] from by decide +kernel)).trans e_z1.symm
    have q21 : s19 177 3 = z2 := (t_s19 177 3 (show 1220 ∉ [1222, 1223] from by decide +kernel)).trans e_z2.symm
    obtain ⟨z22, e_z22⟩ : ∃ z, z = s19 177 5 := ⟨_, rfl⟩
    have g_z22 : (0 : Int) ≤ s19 177 5 ∧ s19 177 5 ≤ 5 := hG_s19 177 5
    obtain ⟨z23, e_z23⟩ : ∃ z, z = s19 177 6 := ⟨_, rfl⟩
    have g_z23 : (-2147483648) ≤ s19 177 6 ∧ s19 177 6 ≤ 2147483647 := hG_s19 177 6
    show xe none 4 17 [(0, .ref 218), (1, .ref 177)] [] s19 0 0 _
    refine x_A k4_17 (fun _ => rfl) ?_
    refine x_A k4_18 (fun _ => rfl) ?_
    refine x_getI k4_19 (f := 5) rfl (q := 218) (n := 7) (kd := 11) ⟨by decide, rfl⟩ (by decide) rfl ?_
    refine x_rw (q20) ?_
    refine x_A k4_22 (fun _ => rfl) ?_
    refine x_iadd k4_23 ?_
    refine x_top (fun z24 e_z24 => ?_)
    refine x_putI k4_24 (f := 5) rfl (q := 218) (n := 7) (kd := 11) ⟨by decide, rfl⟩ rfl rfl rfl ?_
    refine x_nh (fun s25 e_s25 => ?_)
    have hG_s25 : GI s25 := by rw [e_s25]; exact hG_s19.up (show (-2147483648) ≤ z24 ∧ z24 ≤ 2147483647 from (by first | exact x_rbe e_z24 g_z24 rfl rfl | exact x_rb g_z24 rfl rfl | exact ⟨by omega, by omega⟩))
    have f_s25 : FL [2501, 2502, 2816, 1222, 1223] s0 s25 := by rw [e_s25]; exact f_s19.up (show 2502 ∈ [2501, 2502, 2816, 1222, 1223] from by decide +kernel)
    have q26 : s25 177 3 = z2 := by rw [e_s25, x_up_q (by decide)]; exact q21
    have q27 : s25 177 5 = z22 := by rw [e_s25, x_up_q (by decide)]; exact e_z22.symm
    have q28 : s25 177 6 = z23 := by rw [e_s25, x_up_q (by decide)]; exact e_z23.symm
    have q29 : s25 218 5 = z24 := by rw [e_s25]; exact x_up_same
    refine x_A k4_27 (fun _ => rfl) ?_
    refine x_bipush k4_28 (by decide +kernel) ?_
    refine x_callV k4_30 (y := 11) (n := 1) (w0 := 0) (w1 := 1) (as := [vi 6]) (rest := []) (by decide +kernel) (q := 218) (nq := 7) (kq := 11) ⟨by decide, rfl⟩ rfl rfl rfl rfl (xe_mono (C_X0_hold_218 s25 hG_s25 6 ⟨by decide, by decide⟩) ?_)
    rintro s31 v ⟨hG_s31, t_s31, rfl⟩
    have f_s31 : FL [2501, 2502, 2816, 1222, 1223] s0 s31 := f_s25.tr t_s31 (by decide +kernel)
    have q32 : s31 177 3 = z2 := (t_s31 177 3 (show 1220 ∉ [2501, 2816] from by decide +kernel)).trans q26
    have q33 : s31 177 5 = z22 := (t_s31 177 5 (show 1222 ∉ [2501, 2816] from by decide +kernel)).trans q27
    have q34 : s31 177 6 = z23 := (t_s31 177 6 (show 1223 ∉ [2501, 2816] from by decide +kernel)).trans q28
    have q35 : s31 218 5 = z24 := (t_s31 218 5 (show 2502 ∉ [2501, 2816] from by decide +kernel)).trans q29
    show xe none 4 33 [(0, .ref 218), (1, .ref 177)] [] s31 0 0 _
    exact x_vret k4_33 rfl ⟨hG_s31, f_s31, rfl, by omega⟩
set_option maxHeartbeats 8000000 in
theorem E_X0_closeBracket_218 (s0 : xS) (hG0 : GI s0) (p_218_5 : 0 ≤ s0 218 5 ∧ s0 218 5 ≤ 6) : xe none 9 0 (lv_args 0 [.ref 218]) [] s0 0 0 (fun s' v => GI s' ∧ FL [2501, 2502, 2560, 2688] s0 s' ∧ v = none ∧ (s' 218 5 = s0 218 5 - 1)) := by
  have f0 : FL [2501, 2502, 2560, 2688] s0 s0 := FL.rf
  show xe none 9 0 [(0, .ref 218)] [] s0 0 0 _
  obtain ⟨z1, e_z1⟩ : ∃ z, z = s0 218 5 := ⟨_, rfl⟩
  have g_z1 : (-2147483648) ≤ s0 218 5 ∧ s0 218 5 ≤ 2147483647 := hG0 218 5
  refine x_A k9_0 (fun _ => rfl) ?_
  refine x_bipush k9_1 (by decide +kernel) ?_
  refine x_callV k9_3 (y := 12) (n := 1) (w0 := 0) (w1 := 1) (as := [vi 7]) (rest := []) (by decide +kernel) (q := 218) (nq := 7) (kq := 11) ⟨by decide, rfl⟩ rfl rfl rfl rfl (xe_mono (C_X0_releaseDownTo_218 s0 hG0 7 ⟨by decide, by decide⟩) ?_)
  rintro s3 v ⟨hG_s3, t_s3, rfl⟩
  have f_s3 : FL [2501, 2502, 2560, 2688] s0 s3 := f0.tr t_s3 (by decide +kernel)
  have q4 : s3 218 5 = z1 := (t_s3 218 5 (show 2502 ∉ [2501, 2560, 2688] from by decide +kernel)).trans e_z1.symm
  show xe none 9 6 [(0, .ref 218)] [] s3 0 0 _
  refine x_A k9_6 (fun _ => rfl) ?_
  refine x_getI k9_7 (f := 4) rfl (q := 218) (n := 7) (kd := 11) ⟨by decide, rfl⟩ (by decide) rfl ?_
  refine x_top (fun z5 e_z5 => ?_)
  have g_z5 : (0 : Int) ≤ s3 218 4 ∧ s3 218 4 ≤ 100 := hG_s3 218 4
  refine x_if_le k9_10 (t := 23) rfl (by first | exact x_rbe e_z5 g_z5 rfl rfl | exact x_rb g_z5 rfl rfl | exact ⟨by omega, by omega⟩) (fun c6 => ?_) (fun c6 => ?_)
  · skip
    refine x_A k9_23 (fun _ => rfl) ?_
    refine x_A k9_24 (fun _ => rfl) ?_
    refine x_getI k9_25 (f := 5) rfl (q := 218) (n := 7) (kd := 11) ⟨by decide, rfl⟩ (by decide) rfl ?_
    refine x_rw (q4) ?_
    refine x_A k9_28 (fun _ => rfl) ?_
    refine x_isub k9_29 ?_
    refine x_top (fun z7 e_z7 => ?_)
    refine x_putI k9_30 (f := 5) rfl (q := 218) (n := 7) (kd := 11) ⟨by decide, rfl⟩ rfl rfl rfl ?_
    refine x_nh (fun s8 e_s8 => ?_)
    have hG_s8 : GI s8 := by rw [e_s8]; exact hG_s3.up (show (-2147483648) ≤ z7 ∧ z7 ≤ 2147483647 from (by first | exact x_rbe e_z7 g_z7 rfl rfl | exact x_rb g_z7 rfl rfl | exact ⟨by omega, by omega⟩))
    have f_s8 : FL [2501, 2502, 2560, 2688] s0 s8 := by rw [e_s8]; exact f_s3.up (show 2502 ∈ [2501, 2502, 2560, 2688] from by decide +kernel)
    have q9 : s8 218 4 = z5 := by rw [e_s8, x_up_i (by decide)]; exact e_z5.symm
    have q10 : s8 218 5 = z7 := by rw [e_s8]; exact x_up_same
    exact x_vret k9_33 rfl ⟨hG_s8, f_s8, rfl, by omega⟩
  · skip
    refine x_A k9_13 (fun _ => rfl) ?_
    refine x_A k9_14 (fun _ => rfl) ?_
    refine x_getI k9_15 (f := 4) rfl (q := 218) (n := 7) (kd := 11) ⟨by decide, rfl⟩ (by decide) rfl ?_
    refine x_rw (e_z5.symm) ?_
    refine x_A k9_18 (fun _ => rfl) ?_
    refine x_isub k9_19 ?_
    refine x_top (fun z11 e_z11 => ?_)
    refine x_putI k9_20 (f := 4) rfl (q := 218) (n := 7) (kd := 11) ⟨by decide, rfl⟩ rfl rfl rfl ?_
    refine x_nh (fun s12 e_s12 => ?_)
    have hG_s12 : GI s12 := by rw [e_s12]; exact hG_s3.up (show 0 ≤ z11 ∧ z11 ≤ 100 from (by first | exact x_rbe e_z11 g_z11 rfl rfl | exact x_rb g_z11 rfl rfl | exact ⟨by omega, by omega⟩))
    have f_s12 : FL [2501, 2502, 2560, 2688] s0 s12 := by rw [e_s12]; exact f_s3.up (show 2501 ∈ [2501, 2502, 2560, 2688] from by decide +kernel)
    have q13 : s12 218 5 = z1 := by rw [e_s12, x_up_i (by decide)]; exact q4
    have q14 : s12 218 4 = z11 := by rw [e_s12]; exact x_up_same
    refine x_A k9_23 (fun _ => rfl) ?_
    refine x_A k9_24 (fun _ => rfl) ?_
    refine x_getI k9_25 (f := 5) rfl (q := 218) (n := 7) (kd := 11) ⟨by decide, rfl⟩ (by decide) rfl ?_
    refine x_rw (q13) ?_
    refine x_A k9_28 (fun _ => rfl) ?_
    refine x_isub k9_29 ?_
    refine x_top (fun z15 e_z15 => ?_)
    refine x_putI k9_30 (f := 5) rfl (q := 218) (n := 7) (kd := 11) ⟨by decide, rfl⟩ rfl rfl rfl ?_
    refine x_nh (fun s16 e_s16 => ?_)
    have hG_s16 : GI s16 := by rw [e_s16]; exact hG_s12.up (show (-2147483648) ≤ z15 ∧ z15 ≤ 2147483647 from (by first | exact x_rbe e_z15 g_z15 rfl rfl | exact x_rb g_z15 rfl rfl | exact ⟨by omega, by omega⟩))
    have f_s16 : FL [2501, 2502, 2560, 2688] s0 s16 := by rw [e_s16]; exact f_s12.up (show 2502 ∈ [2501, 2502, 2560, 2688] from by decide +kernel)
    have q17 : s16 218 4 = z11 := by rw [e_s16, x_up_i (by decide)]; exact q14
    have q18 : s16 218 5 = z15 := by rw [e_s16]; exact x_up_same
    exact x_vret k9_33 rfl ⟨hG_s16, f_s16, rfl, by omega⟩
