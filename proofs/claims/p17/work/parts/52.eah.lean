set_option maxHeartbeats 8000000 in
theorem E_X4_readSecond_177 (s0 : xS) (hG0 : GI s0) (a : Int) (b_a : (-2147483648) ≤ a ∧ a ≤ 2147483647) (i0_TK : TKs s0) : xe none 39 0 (lv_args 0 [.ref 177, vi a]) [] s0 0 0 (fun s' v => GI s' ∧ FL [1219, 1220, 1221, 1222, 1223] s0 s' ∧ ∃ z, v = some (vi z) ∧ ((-1) ≤ z ∧ z ≤ 99) ∧ (SeC s0 s' a z ∧ (s' 177 5 = 0 → s0 177 5 = 0 ∧ (a = 3 → 0 ≤ z ∧ z ≤ 5))) ∧ TKs s') := by
  have f0 : FL [1219, 1220, 1221, 1222, 1223] s0 s0 := FL.rf
  show xe none 39 0 [(0, .ref 177), (1, vi a)] [] s0 0 0 _
  refine x_A k39_0 (fun _ => rfl) ?_
  have c1 : a = 1 ∨ a = 2 ∨ a = 3 ∨ a = 4 ∨ ¬ (1 ≤ a ∧ a ≤ 4) := by omega
  rcases c1 with c1 | c1 | c1 | c1 | c1
  · rw [c1]
    refine x_B k39_1 rfl (fun _ => rfl) (fun _ => rfl) (fun _ _ => rfl) ?_
    show xe none 39 32 [(0, .ref 177), (1, vi 1)] [] s0 0 0 _
    refine x_A k39_32 (fun _ => rfl) ?_
    refine x_callS k39_33 (y := 40) (n := 1) (w0 := 0) (w1 := 1) (as := [.ref 177]) (rest := []) (by decide +kernel) rfl rfl rfl rfl (xe_mono (E_X4_readSense_177 s0 hG0 i0_TK) ?_)
    rintro s3 v ⟨hG_s3, t_s3, z2, rfl, g_z2, xp_z2, TK_s3⟩
    have f_s3 : FL [1219, 1220, 1221, 1222, 1223] s0 s3 := f0.tr t_s3 (by decide +kernel)
    obtain ⟨z4, e_z4⟩ : ∃ z, z = s3 177 3 := ⟨_, rfl⟩
    have g_z4 : (0 : Int) ≤ s3 177 3 ∧ s3 177 3 ≤ 160 := hG_s3 177 3
    obtain ⟨z5, e_z5⟩ : ∃ z, z = s3 177 5 := ⟨_, rfl⟩
    have g_z5 : (0 : Int) ≤ s3 177 5 ∧ s3 177 5 ≤ 5 := hG_s3 177 5
    obtain ⟨z6, e_z6⟩ : ∃ z, z = s3 177 6 := ⟨_, rfl⟩
    have g_z6 : (-2147483648) ≤ s3 177 6 ∧ s3 177 6 ≤ 2147483647 := hG_s3 177 6
    show xe none 39 36 [(0, .ref 177), (1, vi 1)] [vi z2] s3 0 0 _
    exact x_iret k39_36 rfl ⟨hG_s3, f_s3, z2, rfl, (by first | exact x_rbe e_z2 g_z2 rfl rfl | exact x_rb g_z2 rfl rfl | exact ⟨by omega, by omega⟩), ⟨(by (try rw [show a = 1 by omega]); exact xp_z2.1), by omega⟩, TK_s3⟩
  · rw [c1]
    refine x_B k39_1 rfl (fun _ => rfl) (fun _ => rfl) (fun _ _ => rfl) ?_
    show xe none 39 37 [(0, .ref 177), (1, vi 2)] [] s0 0 0 _
    refine x_A k39_37 (fun _ => rfl) ?_
    refine x_ldcR k39_38 (q := 2015) rfl ?_
    refine x_callV k39_40 (y := 55) (n := 1) (w0 := 0) (w1 := 1) (as := [.ref 2015]) (rest := []) (by decide +kernel) (q := 177) (nq := 7) (kq := 7) ⟨by decide, rfl⟩ rfl rfl rfl rfl (xe_mono (E_X6_takeWord_177_2015 s0 hG0 i0_TK) ?_)
    rintro s8 v ⟨hG_s8, t_s8, rfl, xp_z7, TK_s8⟩
    have f_s8 : FL [1219, 1220, 1221, 1222, 1223] s0 s8 := f0.tr t_s8 (by decide +kernel)
    obtain ⟨z9, e_z9⟩ : ∃ z, z = s8 177 3 := ⟨_, rfl⟩
    have g_z9 : (0 : Int) ≤ s8 177 3 ∧ s8 177 3 ≤ 160 := hG_s8 177 3
    obtain ⟨z10, e_z10⟩ : ∃ z, z = s8 177 5 := ⟨_, rfl⟩
    have g_z10 : (0 : Int) ≤ s8 177 5 ∧ s8 177 5 ≤ 5 := hG_s8 177 5
    obtain ⟨z11, e_z11⟩ : ∃ z, z = s8 177 6 := ⟨_, rfl⟩
    have g_z11 : (-2147483648) ≤ s8 177 6 ∧ s8 177 6 ≤ 2147483647 := hG_s8 177 6
    show xe none 39 43 [(0, .ref 177), (1, vi 2)] [] s8 0 0 _
    refine x_A k39_43 (fun _ => rfl) ?_
    refine x_A k39_44 (fun _ => rfl) ?_
    refine x_bipush k39_45 (by decide +kernel) ?_
    refine x_A k39_47 (fun _ => rfl) ?_
    refine x_callV k39_48 (y := 57) (n := 3) (w0 := 0) (w1 := 3) (as := [vi 0, vi 39, vi 2]) (rest := []) (by decide +kernel) (q := 177) (nq := 7) (kq := 7) ⟨by decide, rfl⟩ rfl rfl rfl rfl (xe_mono (E_X6_takeNumber_177 s8 hG_s8 0 ⟨by decide, by decide⟩ 39 ⟨by decide, by decide⟩ 2 ⟨by decide, by decide⟩ TK_s8) ?_)
    rintro s13 v ⟨hG_s13, t_s13, z12, rfl, g_z12, xp_z12, TK_s13⟩
    have f_s13 : FL [1219, 1220, 1221, 1222, 1223] s0 s13 := f_s8.tr t_s13 (by decide +kernel)
    obtain ⟨z14, e_z14⟩ : ∃ z, z = s13 177 3 := ⟨_, rfl⟩
    have g_z14 : (0 : Int) ≤ s13 177 3 ∧ s13 177 3 ≤ 160 := hG_s13 177 3
    obtain ⟨z15, e_z15⟩ : ∃ z, z = s13 177 5 := ⟨_, rfl⟩
    have g_z15 : (0 : Int) ≤ s13 177 5 ∧ s13 177 5 ≤ 5 := hG_s13 177 5
    obtain ⟨z16, e_z16⟩ : ∃ z, z = s13 177 6 := ⟨_, rfl⟩
    have g_z16 : (-2147483648) ≤ s13 177 6 ∧ s13 177 6 ≤ 2147483647 := hG_s13 177 6
    show xe none 39 51 [(0, .ref 177), (1, vi 2)] [vi z12] s13 0 0 _
    exact x_iret k39_51 rfl ⟨hG_s13, f_s13, z12, rfl, (by first | exact x_rbe e_z12 g_z12 rfl rfl | exact x_rb g_z12 rfl rfl | exact ⟨by omega, by omega⟩), ⟨(by have n1 := xp_z12.1; have t1 := xp_z7.1; unfold NmC NmR at n1; unfold TwC at t1; rw [show s8 178 = s0 178 from (show s8 178 = s0 178 from funext fun i => f_s8 178 i (show 1280 ∉ [1219, 1220, 1221, 1222, 1223] from by decide +kernel)), show s8 177 1 = s0 177 1 from f_s8 177 1 (show 1218 ∉ [1219, 1220, 1221, 1222, 1223] from by decide +kernel)] at n1; (try rw [show a = 2 by omega]); unfold SeC SeR; have s1 := s2_2 (s0 178) (s0 177 1) (s0 177 3); rcases t1 with t1 | t1 | t1 <;> first | omega | (rw [t1.2.2.2.2] at n1; omega)), by omega⟩, TK_s13⟩
  · rw [c1]
    refine x_B k39_1 rfl (fun _ => rfl) (fun _ => rfl) (fun _ _ => rfl) ?_
    show xe none 39 52 [(0, .ref 177), (1, vi 3)] [] s0 0 0 _
    refine x_A k39_52 (fun _ => rfl) ?_
    refine x_ldcR k39_53 (q := 2016) rfl ?_
    refine x_callV k39_55 (y := 55) (n := 1) (w0 := 0) (w1 := 1) (as := [.ref 2016]) (rest := []) (by decide +kernel) (q := 177) (nq := 7) (kq := 7) ⟨by decide, rfl⟩ rfl rfl rfl rfl (xe_mono (E_X6_takeWord_177_2016 s0 hG0 i0_TK) ?_)
    rintro s18 v ⟨hG_s18, t_s18, rfl, xp_z17, TK_s18⟩
    have f_s18 : FL [1219, 1220, 1221, 1222, 1223] s0 s18 := f0.tr t_s18 (by decide +kernel)
    obtain ⟨z19, e_z19⟩ : ∃ z, z = s18 177 3 := ⟨_, rfl⟩
    have g_z19 : (0 : Int) ≤ s18 177 3 ∧ s18 177 3 ≤ 160 := hG_s18 177 3
    obtain ⟨z20, e_z20⟩ : ∃ z, z = s18 177 5 := ⟨_, rfl⟩
    have g_z20 : (0 : Int) ≤ s18 177 5 ∧ s18 177 5 ≤ 5 := hG_s18 177 5
    obtain ⟨z21, e_z21⟩ : ∃ z, z = s18 177 6 := ⟨_, rfl⟩
    have g_z21 : (-2147483648) ≤ s18 177 6 ∧ s18 177 6 ≤ 2147483647 := hG_s18 177 6
    show xe none 39 58 [(0, .ref 177), (1, vi 3)] [] s18 0 0 _
    refine x_A k39_58 (fun _ => rfl) ?_
    refine x_A k39_59 (fun _ => rfl) ?_
    refine x_A k39_60 (fun _ => rfl) ?_
    refine x_A k39_61 (fun _ => rfl) ?_
    refine x_callV k39_62 (y := 57) (n := 3) (w0 := 0) (w1 := 3) (as := [vi 0, vi 5, vi 2]) (rest := []) (by decide +kernel) (q := 177) (nq := 7) (kq := 7) ⟨by decide, rfl⟩ rfl rfl rfl rfl (xe_mono (E_X6_takeNumber_177 s18 hG_s18 0 ⟨by decide, by decide⟩ 5 ⟨by decide, by decide⟩ 2 ⟨by decide, by decide⟩ TK_s18) ?_)
    rintro s23 v ⟨hG_s23, t_s23, z22, rfl, g_z22, xp_z22, TK_s23⟩
    have f_s23 : FL [1219, 1220, 1221, 1222, 1223] s0 s23 := f_s18.tr t_s23 (by decide +kernel)
    obtain ⟨z24, e_z24⟩ : ∃ z, z = s23 177 3 := ⟨_, rfl⟩
    have g_z24 : (0 : Int) ≤ s23 177 3 ∧ s23 177 3 ≤ 160 := hG_s23 177 3
    obtain ⟨z25, e_z25⟩ : ∃ z, z = s23 177 5 := ⟨_, rfl⟩
    have g_z25 : (0 : Int) ≤ s23 177 5 ∧ s23 177 5 ≤ 5 := hG_s23 177 5
    obtain ⟨z26, e_z26⟩ : ∃ z, z = s23 177 6 := ⟨_, rfl⟩
    have g_z26 : (-2147483648) ≤ s23 177 6 ∧ s23 177 6 ≤ 2147483647 := hG_s23 177 6
    show xe none 39 65 [(0, .ref 177), (1, vi 3)] [vi z22] s23 0 0 _
    exact x_iret k39_65 rfl ⟨hG_s23, f_s23, z22, rfl, (by first | exact x_rbe e_z22 g_z22 rfl rfl | exact x_rb g_z22 rfl rfl | exact ⟨by omega, by omega⟩), ⟨(by have n1 := xp_z22.1; have t1 := xp_z17.1; unfold NmC NmR at n1; unfold TwC at t1; rw [show s18 178 = s0 178 from (show s18 178 = s0 178 from funext fun i => f_s18 178 i (show 1280 ∉ [1219, 1220, 1221, 1222, 1223] from by decide +kernel)), show s18 177 1 = s0 177 1 from f_s18 177 1 (show 1218 ∉ [1219, 1220, 1221, 1222, 1223] from by decide +kernel)] at n1; (try rw [show a = 3 by omega]); unfold SeC SeR; have s1 := s2_3 (s0 178) (s0 177 1) (s0 177 3); rcases t1 with t1 | t1 | t1 <;> first | omega | (rw [t1.2.2.2.2] at n1; omega)), by omega⟩, TK_s23⟩
  · rw [c1]
    refine x_B k39_1 rfl (fun _ => rfl) (fun _ => rfl) (fun _ _ => rfl) ?_
    show xe none 39 66 [(0, .ref 177), (1, vi 4)] [] s0 0 0 _
    refine x_A k39_66 (fun _ => rfl) ?_
    refine x_ldcR k39_67 (q := 2016) rfl ?_
    refine x_callV k39_69 (y := 55) (n := 1) (w0 := 0) (w1 := 1) (as := [.ref 2016]) (rest := []) (by decide +kernel) (q := 177) (nq := 7) (kq := 7) ⟨by decide, rfl⟩ rfl rfl rfl rfl (xe_mono (E_X6_takeWord_177_2016 s0 hG0 i0_TK) ?_)
    rintro s28 v ⟨hG_s28, t_s28, rfl, xp_z27, TK_s28⟩
    have f_s28 : FL [1219, 1220, 1221, 1222, 1223] s0 s28 := f0.tr t_s28 (by decide +kernel)
    obtain ⟨z29, e_z29⟩ : ∃ z, z = s28 177 3 := ⟨_, rfl⟩
    have g_z29 : (0 : Int) ≤ s28 177 3 ∧ s28 177 3 ≤ 160 := hG_s28 177 3
    obtain ⟨z30, e_z30⟩ : ∃ z, z = s28 177 5 := ⟨_, rfl⟩
    have g_z30 : (0 : Int) ≤ s28 177 5 ∧ s28 177 5 ≤ 5 := hG_s28 177 5
    obtain ⟨z31, e_z31⟩ : ∃ z, z = s28 177 6 := ⟨_, rfl⟩
    have g_z31 : (-2147483648) ≤ s28 177 6 ∧ s28 177 6 ≤ 2147483647 := hG_s28 177 6
    show xe none 39 72 [(0, .ref 177), (1, vi 4)] [] s28 0 0 _
    refine x_A k39_72 (fun _ => rfl) ?_
    refine x_A k39_73 (fun _ => rfl) ?_
    refine x_bipush k39_74 (by decide +kernel) ?_
    refine x_A k39_76 (fun _ => rfl) ?_
    refine x_callV k39_77 (y := 57) (n := 3) (w0 := 0) (w1 := 3) (as := [vi 0, vi 39, vi 2]) (rest := []) (by decide +kernel) (q := 177) (nq := 7) (kq := 7) ⟨by decide, rfl⟩ rfl rfl rfl rfl (xe_mono (E_X6_takeNumber_177 s28 hG_s28 0 ⟨by decide, by decide⟩ 39 ⟨by decide, by decide⟩ 2 ⟨by decide, by decide⟩ TK_s28) ?_)
    rintro s33 v ⟨hG_s33, t_s33, z32, rfl, g_z32, xp_z32, TK_s33⟩
    have f_s33 : FL [1219, 1220, 1221, 1222, 1223] s0 s33 := f_s28.tr t_s33 (by decide +kernel)
    obtain ⟨z34, e_z34⟩ : ∃ z, z = s33 177 3 := ⟨_, rfl⟩
    have g_z34 : (0 : Int) ≤ s33 177 3 ∧ s33 177 3 ≤ 160 := hG_s33 177 3
    obtain ⟨z35, e_z35⟩ : ∃ z, z = s33 177 5 := ⟨_, rfl⟩
    have g_z35 : (0 : Int) ≤ s33 177 5 ∧ s33 177 5 ≤ 5 := hG_s33 177 5
    obtain ⟨z36, e_z36⟩ : ∃ z, z = s33 177 6 := ⟨_, rfl⟩
    have g_z36 : (-2147483648) ≤ s33 177 6 ∧ s33 177 6 ≤ 2147483647 := hG_s33 177 6
    show xe none 39 80 [(0, .ref 177), (1, vi 4)] [vi z32] s33 0 0 _
    exact x_iret k39_80 rfl ⟨hG_s33, f_s33, z32, rfl, (by first | exact x_rbe e_z32 g_z32 rfl rfl | exact x_rb g_z32 rfl rfl | exact ⟨by omega, by omega⟩), ⟨(by have n1 := xp_z32.1; have t1 := xp_z27.1; unfold NmC NmR at n1; unfold TwC at t1; rw [show s28 178 = s0 178 from (show s28 178 = s0 178 from funext fun i => f_s28 178 i (show 1280 ∉ [1219, 1220, 1221, 1222, 1223] from by decide +kernel)), show s28 177 1 = s0 177 1 from f_s28 177 1 (show 1218 ∉ [1219, 1220, 1221, 1222, 1223] from by decide +kernel)] at n1; (try rw [show a = 4 by omega]); unfold SeC SeR; have s1 := s2_4 (s0 178) (s0 177 1) (s0 177 3); rcases t1 with t1 | t1 | t1 <;> first | omega | (rw [t1.2.2.2.2] at n1; omega)), by omega⟩, TK_s33⟩
  · refine x_tabD k39_1 ⟨by omega, by omega⟩ c1 (t0 := 81) rfl ?_
    refine x_A k39_81 (fun _ => rfl) ?_
    obtain ⟨z37, e_z37⟩ : ∃ z, z = s0 177 3 := ⟨_, rfl⟩
    have g_z37 : (0 : Int) ≤ s0 177 3 ∧ s0 177 3 ≤ 160 := hG0 177 3
    obtain ⟨z38, e_z38⟩ : ∃ z, z = s0 177 5 := ⟨_, rfl⟩
    have g_z38 : (0 : Int) ≤ s0 177 5 ∧ s0 177 5 ≤ 5 := hG0 177 5
    obtain ⟨z39, e_z39⟩ : ∃ z, z = s0 177 6 := ⟨_, rfl⟩
    have g_z39 : (-2147483648) ≤ s0 177 6 ∧ s0 177 6 ≤ 2147483647 := hG0 177 6
    exact x_iret k39_82 rfl ⟨hG0, f0, (-1), rfl, ⟨by decide, by decide⟩, ⟨(by unfold SeC SeR; have sx := s2_5 (s0 178) (s0 177 1) (s0 177 3) (k := a) (by omega); omega), by omega⟩, i0_TK⟩
