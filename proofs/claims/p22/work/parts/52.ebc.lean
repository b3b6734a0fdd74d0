set_option maxHeartbeats 8000000 in
theorem W_X0_joinBy_218 (s0 : xS) (hG0 : GI s0) (a : Int) (b_a : 0 ≤ a ∧ a ≤ 9) (p_218_6 : 0 ≤ s0 218 6 ∧ s0 218 6 ≤ 7) : xe none 10 0 (lv_args 0 [.ref 218, vi a]) [] s0 0 0 (fun s' v => GI s' ∧ FL [2501, 2560, 2688, 2816] s0 s' ∧ v = none ∧ (JoW s0 s' a)) := by
  have f0 : FL [2501, 2560, 2688, 2816] s0 s0 := FL.rf
  show xe none 10 0 [(0, .ref 218), (1, vi a)] [] s0 0 0 _
  obtain ⟨z1, e_z1⟩ : ∃ z, z = s0 218 6 := ⟨_, rfl⟩
  have g_z1 : (0 : Int) ≤ s0 218 6 ∧ s0 218 6 ≤ 8 := hG0 218 6
  refine x_A k10_0 (fun _ => rfl) ?_
  refine x_A k10_1 (fun _ => rfl) ?_
  refine x_callV k10_2 (y := 12) (n := 1) (w0 := 0) (w1 := 1) (as := [vi a]) (rest := []) (by decide +kernel) (q := 218) (nq := 7) (kq := 11) ⟨by decide, rfl⟩ rfl rfl rfl rfl (xe_mono (W_X0_releaseDownTo_218 s0 hG0 a ⟨by omega, by omega⟩ ⟨by omega, by omega⟩) ?_)
  rintro s3 v ⟨hG_s3, t_s3, rfl, xp_z2⟩
  have f_s3 : FL [2501, 2560, 2688, 2816] s0 s3 := f0.tr t_s3 (by decide)
  have q4 : s3 218 6 = z1 := (t_s3 218 6 (show 2503 ∉ [2501, 2560, 2688] from by decide)).trans e_z1.symm
  show xe none 10 5 [(0, .ref 218), (1, vi a)] [] s3 0 0 _
  refine x_A k10_5 (fun _ => rfl) ?_
  refine x_A k10_6 (fun _ => rfl) ?_
  refine x_callV k10_7 (y := 11) (n := 1) (w0 := 0) (w1 := 1) (as := [vi a]) (rest := []) (by decide +kernel) (q := 218) (nq := 7) (kq := 11) ⟨by decide, rfl⟩ rfl rfl rfl rfl (xe_mono (W_X0_hold_218 s3 hG_s3 a ⟨by omega, by omega⟩) ?_)
  rintro s6 v ⟨hG_s6, t_s6, rfl, xp_z5⟩
  have f_s6 : FL [2501, 2560, 2688, 2816] s0 s6 := f_s3.tr t_s6 (by decide)
  have q7 : s6 218 6 = z1 := (t_s6 218 6 (show 2503 ∉ [2501, 2816] from by decide)).trans q4
  obtain ⟨z8, e_z8⟩ : ∃ z, z = s6 218 4 := ⟨_, rfl⟩
  have g_z8 : (0 : Int) ≤ s6 218 4 ∧ s6 218 4 ≤ 100 := hG_s6 218 4
  show xe none 10 10 [(0, .ref 218), (1, vi a)] [] s6 0 0 _
  exact x_vret k10_10 rfl ⟨hG_s6, f_s6, rfl, (JoW.of xp_z2 (by omega) ⟨by omega, by omega⟩ xp_z5 t_s6)⟩
set_option maxHeartbeats 8000000 in
theorem W_X0_closeBracket_218 (s0 : xS) (hG0 : GI s0) (p_218_5 : 0 ≤ s0 218 5 ∧ s0 218 5 ≤ 6) (p_218_6 : 0 ≤ s0 218 6 ∧ s0 218 6 ≤ 7) : xe none 9 0 (lv_args 0 [.ref 218]) [] s0 0 0 (fun s' v => GI s' ∧ FL [2501, 2502, 2560, 2688] s0 s' ∧ v = none ∧ (s' 218 5 = s0 218 5 - 1 ∧ ClW s0 s')) := by
  have f0 : FL [2501, 2502, 2560, 2688] s0 s0 := FL.rf
  show xe none 9 0 [(0, .ref 218)] [] s0 0 0 _
  obtain ⟨z1, e_z1⟩ : ∃ z, z = s0 218 5 := ⟨_, rfl⟩
  have g_z1 : (-2147483648) ≤ s0 218 5 ∧ s0 218 5 ≤ 2147483647 := hG0 218 5
  obtain ⟨z2, e_z2⟩ : ∃ z, z = s0 218 6 := ⟨_, rfl⟩
  have g_z2 : (0 : Int) ≤ s0 218 6 ∧ s0 218 6 ≤ 8 := hG0 218 6
  refine x_A k9_0 (fun _ => rfl) ?_
  refine x_bipush k9_1 (by decide +kernel) ?_
  refine x_callV k9_3 (y := 12) (n := 1) (w0 := 0) (w1 := 1) (as := [vi 7]) (rest := []) (by decide +kernel) (q := 218) (nq := 7) (kq := 11) ⟨by decide, rfl⟩ rfl rfl rfl rfl (xe_mono (W_X0_releaseDownTo_218 s0 hG0 7 ⟨by omega, by omega⟩ ⟨by omega, by omega⟩) ?_)
  rintro s4 v ⟨hG_s4, t_s4, rfl, xp_z3⟩
  have f_s4 : FL [2501, 2502, 2560, 2688] s0 s4 := f0.tr t_s4 (by decide)
  have q5 : s4 218 5 = z1 := (t_s4 218 5 (show 2502 ∉ [2501, 2560, 2688] from by decide)).trans e_z1.symm
  have q6 : s4 218 6 = z2 := (t_s4 218 6 (show 2503 ∉ [2501, 2560, 2688] from by decide)).trans e_z2.symm
  show xe none 9 6 [(0, .ref 218)] [] s4 0 0 _
  obtain ⟨z7, e_z7⟩ : ∃ z, z = s4 218 4 := ⟨_, rfl⟩
  have g_z7 : (0 : Int) ≤ s4 218 4 ∧ s4 218 4 ≤ 100 := hG_s4 218 4
  refine x_A k9_6 (fun _ => rfl) ?_
  refine x_getI k9_7 (f := 4) rfl (q := 218) (n := 7) (kd := 11) ⟨by decide, rfl⟩ (by decide) rfl ?_
  refine x_rw (e_z7.symm) ?_
  refine x_if_le k9_10 (t := 23) rfl ⟨by omega, by omega⟩ (fun c8 => ?_) (fun c8 => ?_)
  · skip
    refine x_A k9_23 (fun _ => rfl) ?_
    refine x_A k9_24 (fun _ => rfl) ?_
    refine x_getI k9_25 (f := 5) rfl (q := 218) (n := 7) (kd := 11) ⟨by decide, rfl⟩ (by decide) rfl ?_
    refine x_rw (q5) ?_
    refine x_A k9_28 (fun _ => rfl) ?_
    refine x_isub k9_29 ?_
    refine x_top (fun z9 e_z9 => ?_)
    refine x_putI k9_30 (f := 5) rfl (q := 218) (n := 7) (kd := 11) ⟨by decide, rfl⟩ rfl rfl rfl ?_
    refine x_nh (fun s10 e_s10 => ?_)
    have hG_s10 : GI s10 := by rw [e_s10]; exact hG_s4.up (show (-2147483648) ≤ z9 ∧ z9 ≤ 2147483647 from ⟨by omega, by omega⟩)
    have f_s10 : FL [2501, 2502, 2560, 2688] s0 s10 := by rw [e_s10]; exact f_s4.up (show 2502 ∈ [2501, 2502, 2560, 2688] from by decide)
    have q11 : s10 218 6 = z2 := by rw [e_s10, x_up_i (by decide)]; exact q6
    have q12 : s10 218 4 = z7 := by rw [e_s10, x_up_i (by decide)]; exact e_z7.symm
    have q13 : s10 218 5 = z9 := by rw [e_s10]; exact x_up_same
    exact x_vret k9_33 rfl ⟨hG_s10, f_s10, rfl, ⟨by omega, ClW.of xp_z3 ⟨by omega, by omega⟩ (by rw [e_s10]; exact FL.rf.up (show 2502 ∈ [2501, 2502] from by decide)) (Or.inr ⟨by omega, by omega⟩)⟩⟩
  · skip
    refine x_A k9_13 (fun _ => rfl) ?_
    refine x_A k9_14 (fun _ => rfl) ?_
    refine x_getI k9_15 (f := 4) rfl (q := 218) (n := 7) (kd := 11) ⟨by decide, rfl⟩ (by decide) rfl ?_
    refine x_rw (e_z7.symm) ?_
    refine x_A k9_18 (fun _ => rfl) ?_
    refine x_isub k9_19 ?_
    refine x_top (fun z14 e_z14 => ?_)
    refine x_putI k9_20 (f := 4) rfl (q := 218) (n := 7) (kd := 11) ⟨by decide, rfl⟩ rfl rfl rfl ?_
    refine x_nh (fun s15 e_s15 => ?_)
    have hG_s15 : GI s15 := by rw [e_s15]; exact hG_s4.up (show 0 ≤ z14 ∧ z14 ≤ 100 from ⟨by omega, by omega⟩)
    have f_s15 : FL [2501, 2502, 2560, 2688] s0 s15 := by rw [e_s15]; exact f_s4.up (show 2501 ∈ [2501, 2502, 2560, 2688] from by decide)
    have q16 : s15 218 5 = z1 := by rw [e_s15, x_up_i (by decide)]; exact q5
    have q17 : s15 218 6 = z2 := by rw [e_s15, x_up_i (by decide)]; exact q6
    have q18 : s15 218 4 = z14 := by rw [e_s15]; exact x_up_same
    refine x_A k9_23 (fun _ => rfl) ?_
    refine x_A k9_24 (fun _ => rfl) ?_
    refine x_getI k9_25 (f := 5) rfl (q := 218) (n := 7) (kd := 11) ⟨by decide, rfl⟩ (by decide) rfl ?_
    refine x_rw (q16) ?_
    refine x_A k9_28 (fun _ => rfl) ?_
    refine x_isub k9_29 ?_
    refine x_top (fun z19 e_z19 => ?_)
    refine x_putI k9_30 (f := 5) rfl (q := 218) (n := 7) (kd := 11) ⟨by decide, rfl⟩ rfl rfl rfl ?_
    refine x_nh (fun s20 e_s20 => ?_)
    have hG_s20 : GI s20 := by rw [e_s20]; exact hG_s15.up (show (-2147483648) ≤ z19 ∧ z19 ≤ 2147483647 from ⟨by omega, by omega⟩)
    have f_s20 : FL [2501, 2502, 2560, 2688] s0 s20 := by rw [e_s20]; exact f_s15.up (show 2502 ∈ [2501, 2502, 2560, 2688] from by decide)
    have q21 : s20 218 6 = z2 := by rw [e_s20, x_up_i (by decide)]; exact q17
    have q22 : s20 218 4 = z14 := by rw [e_s20, x_up_i (by decide)]; exact q18
    have q23 : s20 218 5 = z19 := by rw [e_s20]; exact x_up_same
    exact x_vret k9_33 rfl ⟨hG_s20, f_s20, rfl, ⟨by omega, ClW.of xp_z3 ⟨by omega, by omega⟩ (by rw [e_s20, e_s15]; exact (FL.rf.up (show 2501 ∈ [2501, 2502] from by decide)).up (show 2502 ∈ [2501, 2502] from by decide)) (Or.inl ⟨by omega, by omega⟩)⟩⟩
set_option maxHeartbeats 8000000 in
theorem W_X0_openBracket_218_177 (s0 : xS) (hG0 : GI s0) (p_218_5 : 0 ≤ s0 218 5 ∧ s0 218 5 ≤ 6) (p_218_6 : 0 ≤ s0 218 6 ∧ s0 218 6 ≤ 7) : xe none 4 0 (lv_args 0 [.ref 218, .ref 177]) [] s0 0 0 (fun s' v => GI s' ∧ FL [2501, 2502, 2816, 1222, 1223] s0 s' ∧ v = none ∧ ((s' 218 5 = s0 218 5 + 1 ∧ ((s0 218 5 < 5 ∧ s' 177 5 = s0 177 5 ∧ s' 177 6 = s0 177 6) ∨ (5 ≤ s0 218 5 ∧ ((s0 177 5 ≠ 0 ∧ s' 177 5 = s0 177 5 ∧ s' 177 6 = s0 177 6) ∨ (s0 177 5 = 0 ∧ s' 177 5 = 5 ∧ s' 177 6 = s0 177 3))))) ∧ OpW s0 s')) := by
  have f0 : FL [2501, 2502, 2816, 1222, 1223] s0 s0 := FL.rf
  show xe none 4 0 [(0, .ref 218), (1, .ref 177)] [] s0 0 0 _
  obtain ⟨z1, e_z1⟩ : ∃ z, z = s0 218 5 := ⟨_, rfl⟩
  have g_z1 : (-2147483648) ≤ s0 218 5 ∧ s0 218 5 ≤ 2147483647 := hG0 218 5
  obtain ⟨z2, e_z2⟩ : ∃ z, z = s0 218 6 := ⟨_, rfl⟩
  have g_z2 : (0 : Int) ≤ s0 218 6 ∧ s0 218 6 ≤ 8 := hG0 218 6
  obtain ⟨z3, e_z3⟩ : ∃ z, z = s0 177 3 := ⟨_, rfl⟩
  have g_z3 : (0 : Int) ≤ s0 177 3 ∧ s0 177 3 ≤ 160 := hG0 177 3
  obtain ⟨z4, e_z4⟩ : ∃ z, z = s0 177 5 := ⟨_, rfl⟩
  have g_z4 : (0 : Int) ≤ s0 177 5 ∧ s0 177 5 ≤ 5 := hG0 177 5
  obtain ⟨z5, e_z5⟩ : ∃ z, z = s0 177 6 := ⟨_, rfl⟩
  have g_z5 : (-2147483648) ≤ s0 177 6 ∧ s0 177 6 ≤ 2147483647 := hG0 177 6
  refine x_A k4_0 (fun _ => rfl) ?_
  refine x_getI k4_1 (f := 5) rfl (q := 218) (n := 7) (kd := 11) ⟨by decide, rfl⟩ (by decide) rfl ?_
  refine x_rw (e_z1.symm) ?_
  refine x_A k4_4 (fun _ => rfl) ?_
  refine x_ic_lt k4_5 (t := 17) rfl ⟨by omega, by omega⟩ ⟨by omega, by omega⟩ (fun c6 => ?_) (fun c6 => ?_)
  · skip
    refine x_A k4_17 (fun _ => rfl) ?_
    refine x_A k4_18 (fun _ => rfl) ?_
    refine x_getI k4_19 (f := 5) rfl (q := 218) (n := 7) (kd := 11) ⟨by decide, rfl⟩ (by decide) rfl ?_
    refine x_rw (e_z1.symm) ?_
    refine x_A k4_22 (fun _ => rfl) ?_
    refine x_iadd k4_23 ?_
    refine x_top (fun z7 e_z7 => ?_)
    refine x_putI k4_24 (f := 5) rfl (q := 218) (n := 7) (kd := 11) ⟨by decide, rfl⟩ rfl rfl rfl ?_
    refine x_nh (fun s8 e_s8 => ?_)
    have hG_s8 : GI s8 := by rw [e_s8]; exact hG0.up (show (-2147483648) ≤ z7 ∧ z7 ≤ 2147483647 from ⟨by omega, by omega⟩)
    have f_s8 : FL [2501, 2502, 2816, 1222, 1223] s0 s8 := by rw [e_s8]; exact f0.up (show 2502 ∈ [2501, 2502, 2816, 1222, 1223] from by decide)
    have q9 : s8 218 6 = z2 := by rw [e_s8, x_up_i (by decide)]; exact e_z2.symm
    have q10 : s8 177 3 = z3 := by rw [e_s8, x_up_q (by decide)]; exact e_z3.symm
    have q11 : s8 177 5 = z4 := by rw [e_s8, x_up_q (by decide)]; exact e_z4.symm
    have q12 : s8 177 6 = z5 := by rw [e_s8, x_up_q (by decide)]; exact e_z5.symm
    have q13 : s8 218 5 = z7 := by rw [e_s8]; exact x_up_same
    refine x_A k4_27 (fun _ => rfl) ?_
    refine x_bipush k4_28 (by decide +kernel) ?_
    refine x_callV k4_30 (y := 11) (n := 1) (w0 := 0) (w1 := 1) (as := [vi 6]) (rest := []) (by decide +kernel) (q := 218) (nq := 7) (kq := 11) ⟨by decide, rfl⟩ rfl rfl rfl rfl (xe_mono (W_X0_hold_218 s8 hG_s8 6 ⟨by omega, by omega⟩) ?_)
    rintro s15 v ⟨hG_s15, t_s15, rfl, xp_z14⟩
    have f_s15 : FL [2501, 2502, 2816, 1222, 1223] s0 s15 := f_s8.tr t_s15 (by decide)
    have q16 : s15 218 6 = z2 := (t_s15 218 6 (show 2503 ∉ [2501, 2816] from by decide)).trans q9
    have q17 : s15 177 3 = z3 := (t_s15 177 3 (show 1220 ∉ [2501, 2816] from by decide)).trans q10
    have q18 : s15 177 5 = z4 := (t_s15 177 5 (show 1222 ∉ [2501, 2816] from by decide)).trans q11
    have q19 : s15 177 6 = z5 := (t_s15 177 6 (show 1223 ∉ [2501, 2816] from by decide)).trans q12
    have q20 : s15 218 5 = z7 := (t_s15 218 5 (show 2502 ∉ [2501, 2816] from by decide)).trans q13
    obtain ⟨z21, e_z21⟩ : ∃ z, z = s15 218 4 := ⟨_, rfl⟩
    have g_z21 : (0 : Int) ≤ s15 218 4 ∧ s15 218 4 ≤ 100 := hG_s15 218 4
    show xe none 4 33 [(0, .ref 218), (1, .ref 177)] [] s15 0 0 _
    exact x_vret k4_33 rfl ⟨hG_s15, f_s15, rfl, ⟨by omega, OpW.of (L := [1222, 1223, 2502]) (by rw [e_s8]; exact (FL.rf (L := [1222, 1223, 2502])).up (show 2502 ∈ [1222, 1223, 2502] from by decide)) (by decide) ⟨by omega, by omega⟩ xp_z14 t_s15⟩⟩
  · skip
    refine x_A k4_8 (fun _ => rfl) ?_
    refine x_A k4_9 (fun _ => rfl) ?_
    refine x_A k4_10 (fun _ => rfl) ?_
    refine x_getI k4_11 (f := 3) rfl (q := 177) (n := 7) (kd := 7) ⟨by decide, rfl⟩ (by decide) rfl ?_
    refine x_rw (e_z3.symm) ?_
    refine x_callV k4_14 (y := 52) (n := 2) (w0 := 0) (w1 := 2) (as := [vi 5, vi z3]) (rest := []) (by decide +kernel) (q := 177) (nq := 7) (kq := 7) ⟨by decide, rfl⟩ rfl rfl rfl rfl (xe_mono (E_X6_fail_177 s0 hG0 5 ⟨by omega, by omega⟩ z3 ⟨by omega, by omega⟩) ?_)
    rintro s23 v ⟨hG_s23, t_s23, rfl, xp_z22⟩
    have f_s23 : FL [2501, 2502, 2816, 1222, 1223] s0 s23 := f0.tr t_s23 (by decide)
    have q24 : s23 218 5 = z1 := (t_s23 218 5 (show 2502 ∉ [1222, 1223] from by decide)).trans e_z1.symm
    have q25 : s23 218 6 = z2 := (t_s23 218 6 (show 2503 ∉ [1222, 1223] from by decide)).trans e_z2.symm
    have q26 : s23 177 3 = z3 := (t_s23 177 3 (show 1220 ∉ [1222, 1223] from by decide)).trans e_z3.symm
    obtain ⟨z27, e_z27⟩ : ∃ z, z = s23 177 5 := ⟨_, rfl⟩
    have g_z27 : (0 : Int) ≤ s23 177 5 ∧ s23 177 5 ≤ 5 := hG_s23 177 5
    obtain ⟨z28, e_z28⟩ : ∃ z, z = s23 177 6 := ⟨_, rfl⟩
    have g_z28 : (-2147483648) ≤ s23 177 6 ∧ s23 177 6 ≤ 2147483647 := hG_s23 177 6
    show xe none 4 17 [(0, .ref 218), (1, .ref 177)] [] s23 0 0 _
    refine x_A k4_17 (fun _ => rfl) ?_
    refine x_A k4_18 (fun _ => rfl) ?_
    refine x_getI k4_19 (f := 5) rfl (q := 218) (n := 7) (kd := 11) ⟨by decide, rfl⟩ (by decide) rfl ?_
    refine x_rw (q24) ?_
    refine x_A k4_22 (fun _ => rfl) ?_
    refine x_iadd k4_23 ?_
    refine x_top (fun z29 e_z29 => ?_)
    refine x_putI k4_24 (f := 5) rfl (q := 218) (n := 7) (kd := 11) ⟨by decide, rfl⟩ rfl rfl rfl ?_
    refine x_nh (fun s30 e_s30 => ?_)
    have hG_s30 : GI s30 := by rw [e_s30]; exact hG_s23.up (show (-2147483648) ≤ z29 ∧ z29 ≤ 2147483647 from ⟨by omega, by omega⟩)
    have f_s30 : FL [2501, 2502, 2816, 1222, 1223] s0 s30 := by rw [e_s30]; exact f_s23.up (show 2502 ∈ [2501, 2502, 2816, 1222, 1223] from by decide)
    have q31 : s30 218 6 = z2 := by rw [e_s30, x_up_i (by decide)]; exact q25
    have q32 : s30 177 3 = z3 := by rw [e_s30, x_up_q (by decide)]; exact q26
    have q33 : s30 177 5 = z27 := by rw [e_s30, x_up_q (by decide)]; exact e_z27.symm
    have q34 : s30 177 6 = z28 := by rw [e_s30, x_up_q (by decide)]; exact e_z28.symm
    have q35 : s30 218 5 = z29 := by rw [e_s30]; exact x_up_same
    refine x_A k4_27 (fun _ => rfl) ?_
    refine x_bipush k4_28 (by decide +kernel) ?_
    refine x_callV k4_30 (y := 11) (n := 1) (w0 := 0) (w1 := 1) (as := [vi 6]) (rest := []) (by decide +kernel) (q := 218) (nq := 7) (kq := 11) ⟨by decide, rfl⟩ rfl rfl rfl rfl (xe_mono (W_X0_hold_218 s30 hG_s30 6 ⟨by omega, by omega⟩) ?_)
    rintro s37 v ⟨hG_s37, t_s37, rfl, xp_z36⟩
    have f_s37 : FL [2501, 2502, 2816, 1222, 1223] s0 s37 := f_s30.tr t_s37 (by decide)
    have q38 : s37 218 6 = z2 := (t_s37 218 6 (show 2503 ∉ [2501, 2816] from by decide)).trans q31
    have q39 : s37 177 3 = z3 := (t_s37 177 3 (show 1220 ∉ [2501, 2816] from by decide)).trans q32
    have q40 : s37 177 5 = z27 := (t_s37 177 5 (show 1222 ∉ [2501, 2816] from by decide)).trans q33
    have q41 : s37 177 6 = z28 := (t_s37 177 6 (show 1223 ∉ [2501, 2816] from by decide)).trans q34
    have q42 : s37 218 5 = z29 := (t_s37 218 5 (show 2502 ∉ [2501, 2816] from by decide)).trans q35
    obtain ⟨z43, e_z43⟩ : ∃ z, z = s37 218 4 := ⟨_, rfl⟩
    have g_z43 : (0 : Int) ≤ s37 218 4 ∧ s37 218 4 ≤ 100 := hG_s37 218 4
    show xe none 4 33 [(0, .ref 218), (1, .ref 177)] [] s37 0 0 _
    exact x_vret k4_33 rfl ⟨hG_s37, f_s37, rfl, ⟨by omega, OpW.of (L := [1222, 1223, 2502]) (by rw [e_s30]; exact ((FL.rf (L := [1222, 1223, 2502])).tr t_s23 (by decide)).up (show 2502 ∈ [1222, 1223, 2502] from by decide)) (by decide) ⟨by omega, by omega⟩ xp_z36 t_s37⟩⟩
set_option maxHeartbeats 8000000 in
theorem W_X0_readNumber_177 (s0 : xS) (hG0 : GI s0) (a : Int) (b_a : (-2147483648) ≤ a ∧ a ≤ 2147483647) (i0_TK : TKs s0) : xe none 7 0 (lv_args 0 [.ref 177, vi a]) [] s0 0 0 (fun s' v => GI s' ∧ FL [1219, 1220, 1221, 1222, 1223] s0 s' ∧ ∃ z, v = some (vi z) ∧ ((-2147483648) ≤ z ∧ z ≤ 2147483647) ∧ ((((1 ≤ a ∧ a ≤ 5) → LnC s0 s' a) ∧ (¬ (1 ≤ a ∧ a ≤ 5) → s' 177 5 = s0 177 5 ∧ s' 177 6 = s0 177 6)) ∧ (1 ≤ a ∧ a ≤ 5 → s' 177 5 = 0 → z = lnv (s0 178) (s0 177 1) (s0 177 3) a)) ∧ TKs s') := by
  have f0 : FL [1219, 1220, 1221, 1222, 1223] s0 s0 := FL.rf
  show xe none 7 0 [(0, .ref 177), (1, vi a)] [] s0 0 0 _
  refine x_A k7_0 (fun _ => rfl) ?_
  have c1 : a = 1 ∨ a = 2 ∨ a = 3 ∨ a = 4 ∨ a = 5 ∨ ¬ (1 ≤ a ∧ a ≤ 5) := by omega
  rcases c1 with c1 | c1 | c1 | c1 | c1 | c1
  · rw [c1]
    refine x_B k7_1 rfl (fun _ => rfl) (fun _ => rfl) (fun _ _ => rfl) ?_
    show xe none 7 36 [(0, .ref 177), (1, vi 1)] [] s0 0 0 _
    refine x_A k7_36 (fun _ => rfl) ?_
    refine x_A k7_37 (fun _ => rfl) ?_
    refine x_bipush k7_38 (by decide +kernel) ?_
    refine x_A k7_40 (fun _ => rfl) ?_
    refine x_callV k7_41 (y := 57) (n := 3) (w0 := 0) (w1 := 3) (as := [vi 0, vi 39, vi 3]) (rest := []) (by decide +kernel) (q := 177) (nq := 7) (kq := 7) ⟨by decide, rfl⟩ rfl rfl rfl rfl (xe_mono (E_X6_takeNumber_177 s0 hG0 0 ⟨by omega, by omega⟩ 39 ⟨by omega, by omega⟩ 3 ⟨by omega, by omega⟩ i0_TK) ?_)
    rintro s3 v ⟨hG_s3, t_s3, z2, rfl, g_z2, xp_z2, TK_s3⟩
    have f_s3 : FL [1219, 1220, 1221, 1222, 1223] s0 s3 := f0.tr t_s3 (by decide)
    obtain ⟨z4, e_z4⟩ : ∃ z, z = s3 177 3 := ⟨_, rfl⟩
    have g_z4 : (0 : Int) ≤ s3 177 3 ∧ s3 177 3 ≤ 160 := hG_s3 177 3
    obtain ⟨z5, e_z5⟩ : ∃ z, z = s3 177 5 := ⟨_, rfl⟩
    have g_z5 : (0 : Int) ≤ s3 177 5 ∧ s3 177 5 ≤ 5 := hG_s3 177 5
    obtain ⟨z6, e_z6⟩ : ∃ z, z = s3 177 6 := ⟨_, rfl⟩
    have g_z6 : (-2147483648) ≤ s3 177 6 ∧ s3 177 6 ≤ 2147483647 := hG_s3 177 6
    show xe none 7 44 [(0, .ref 177), (1, vi 1)] [vi z2] s3 0 0 _
    exact x_iret k7_44 rfl ⟨hG_s3, f_s3, z2, rfl, ⟨by omega, by omega⟩, ⟨⟨fun h => (by (try rw [show a = 1 by omega]); exact LnC.one (by decide) rfl xp_z2.1), fun h => by exfalso; omega⟩, fun h h0 => (by (try rw [show a = 1 by omega]); exact LnZ.one (by decide) xp_z2.1 h0)⟩, TK_s3⟩
  · rw [c1]
    refine x_B k7_1 rfl (fun _ => rfl) (fun _ => rfl) (fun _ _ => rfl) ?_
    show xe none 7 45 [(0, .ref 177), (1, vi 2)] [] s0 0 0 _
    refine x_bipush k7_45 (by decide +kernel) ?_
    refine x_A k7_47 (fun _ => rfl) ?_
    refine x_A k7_48 (fun _ => rfl) ?_
    refine x_A k7_49 (fun _ => rfl) ?_
    refine x_A k7_50 (fun _ => rfl) ?_
    refine x_callV k7_51 (y := 57) (n := 3) (w0 := 1) (w1 := 3) (as := [vi 0, vi 3, vi 3]) (rest := [vi 100]) (by decide +kernel) (q := 177) (nq := 7) (kq := 7) ⟨by decide, rfl⟩ rfl rfl rfl rfl (xe_mono (E_X6_takeNumber_177 s0 hG0 0 ⟨by omega, by omega⟩ 3 ⟨by omega, by omega⟩ 3 ⟨by omega, by omega⟩ i0_TK) ?_)
    rintro s8 v ⟨hG_s8, t_s8, z7, rfl, g_z7, xp_z7, TK_s8⟩
    have f_s8 : FL [1219, 1220, 1221, 1222, 1223] s0 s8 := f0.tr t_s8 (by decide)
    obtain ⟨z9, e_z9⟩ : ∃ z, z = s8 177 3 := ⟨_, rfl⟩
    have g_z9 : (0 : Int) ≤ s8 177 3 ∧ s8 177 3 ≤ 160 := hG_s8 177 3
    obtain ⟨z10, e_z10⟩ : ∃ z, z = s8 177 5 := ⟨_, rfl⟩
    have g_z10 : (0 : Int) ≤ s8 177 5 ∧ s8 177 5 ≤ 5 := hG_s8 177 5
    obtain ⟨z11, e_z11⟩ : ∃ z, z = s8 177 6 := ⟨_, rfl⟩
    have g_z11 : (-2147483648) ≤ s8 177 6 ∧ s8 177 6 ≤ 2147483647 := hG_s8 177 6
    show xe none 7 54 [(0, .ref 177), (1, vi 2)] [vi z7, vi 100] s8 0 0 _
    refine x_imul k7_54 ?_
    refine x_top (fun z12 e_z12 => ?_)
    refine x_A k7_55 (fun _ => rfl) ?_
    refine x_A k7_56 (fun _ => rfl) ?_
    refine x_bipush k7_57 (by decide +kernel) ?_
    refine x_A k7_59 (fun _ => rfl) ?_
    refine x_callV k7_60 (y := 57) (n := 3) (w0 := 1) (w1 := 3) (as := [vi 0, vi 99, vi 3]) (rest := [vi z12]) (by decide +kernel) (q := 177) (nq := 7) (kq := 7) ⟨by decide, rfl⟩ rfl rfl rfl rfl (xe_mono (E_X6_takeNumber_177 s8 hG_s8 0 ⟨by omega, by omega⟩ 99 ⟨by omega, by omega⟩ 3 ⟨by omega, by omega⟩ TK_s8) ?_)
    rintro s14 v ⟨hG_s14, t_s14, z13, rfl, g_z13, xp_z13, TK_s14⟩
    have f_s14 : FL [1219, 1220, 1221, 1222, 1223] s0 s14 := f_s8.tr t_s14 (by decide)
    obtain ⟨z15, e_z15⟩ : ∃ z, z = s14 177 3 := ⟨_, rfl⟩
    have g_z15 : (0 : Int) ≤ s14 177 3 ∧ s14 177 3 ≤ 160 := hG_s14 177 3
    obtain ⟨z16, e_z16⟩ : ∃ z, z = s14 177 5 := ⟨_, rfl⟩
    have g_z16 : (0 : Int) ≤ s14 177 5 ∧ s14 177 5 ≤ 5 := hG_s14 177 5
    obtain ⟨z17, e_z17⟩ : ∃ z, z = s14 177 6 := ⟨_, rfl⟩
    have g_z17 : (-2147483648) ≤ s14 177 6 ∧ s14 177 6 ≤ 2147483647 := hG_s14 177 6
    show xe none 7 63 [(0, .ref 177), (1, vi 2)] [vi z13, vi z12] s14 0 0 _
    refine x_iadd k7_63 ?_
    refine x_top (fun z18 e_z18 => ?_)
    exact x_iret k7_64 rfl ⟨hG_s14, f_s14, z18, rfl, ⟨by omega, by omega⟩, ⟨⟨fun h => (by (try rw [show a = 2 by omega]); exact LnC.two xp_z7.1 xp_z13.1 (funext fun i => f_s8 178 i (show 1280 ∉ [1219, 1220, 1221, 1222, 1223] from by decide)) (f_s8 177 1 (show 1218 ∉ [1219, 1220, 1221, 1222, 1223] from by decide))), fun h => by exfalso; omega⟩, fun h h0 => (by (try rw [show a = 2 by omega]); exact LnZ.two xp_z7.1 xp_z13.1 (funext fun i => f_s8 178 i (show 1280 ∉ [1219, 1220, 1221, 1222, 1223] from by decide)) (f_s8 177 1 (show 1218 ∉ [1219, 1220, 1221, 1222, 1223] from by decide)) (by omega) h0)⟩, TK_s14⟩
  · rw [c1]
    refine x_B k7_1 rfl (fun _ => rfl) (fun _ => rfl) (fun _ _ => rfl) ?_
    show xe none 7 65 [(0, .ref 177), (1, vi 3)] [] s0 0 0 _
    refine x_A k7_65 (fun _ => rfl) ?_
    refine x_A k7_66 (fun _ => rfl) ?_
    refine x_bipush k7_67 (by decide +kernel) ?_
    refine x_A k7_69 (fun _ => rfl) ?_
    refine x_callV k7_70 (y := 57) (n := 3) (w0 := 0) (w1 := 3) (as := [vi 0, vi 7, vi 3]) (rest := []) (by decide +kernel) (q := 177) (nq := 7) (kq := 7) ⟨by decide, rfl⟩ rfl rfl rfl rfl (xe_mono (E_X6_takeNumber_177 s0 hG0 0 ⟨by omega, by omega⟩ 7 ⟨by omega, by omega⟩ 3 ⟨by omega, by omega⟩ i0_TK) ?_)
    rintro s20 v ⟨hG_s20, t_s20, z19, rfl, g_z19, xp_z19, TK_s20⟩
    have f_s20 : FL [1219, 1220, 1221, 1222, 1223] s0 s20 := f0.tr t_s20 (by decide)
    obtain ⟨z21, e_z21⟩ : ∃ z, z = s20 177 3 := ⟨_, rfl⟩
    have g_z21 : (0 : Int) ≤ s20 177 3 ∧ s20 177 3 ≤ 160 := hG_s20 177 3
    obtain ⟨z22, e_z22⟩ : ∃ z, z = s20 177 5 := ⟨_, rfl⟩
    have g_z22 : (0 : Int) ≤ s20 177 5 ∧ s20 177 5 ≤ 5 := hG_s20 177 5
    obtain ⟨z23, e_z23⟩ : ∃ z, z = s20 177 6 := ⟨_, rfl⟩
    have g_z23 : (-2147483648) ≤ s20 177 6 ∧ s20 177 6 ≤ 2147483647 := hG_s20 177 6
    show xe none 7 73 [(0, .ref 177), (1, vi 3)] [vi z19] s20 0 0 _
    exact x_iret k7_73 rfl ⟨hG_s20, f_s20, z19, rfl, ⟨by omega, by omega⟩, ⟨⟨fun h => (by (try rw [show a = 3 by omega]); exact LnC.one (by decide) rfl xp_z19.1), fun h => by exfalso; omega⟩, fun h h0 => (by (try rw [show a = 3 by omega]); exact LnZ.one (by decide) xp_z19.1 h0)⟩, TK_s20⟩
  · rw [c1]
    refine x_B k7_1 rfl (fun _ => rfl) (fun _ => rfl) (fun _ _ => rfl) ?_
    show xe none 7 74 [(0, .ref 177), (1, vi 4)] [] s0 0 0 _
    refine x_A k7_74 (fun _ => rfl) ?_
    refine x_A k7_75 (fun _ => rfl) ?_
    refine x_sipush k7_76 (by decide +kernel) ?_
    refine x_A k7_79 (fun _ => rfl) ?_
    refine x_callV k7_80 (y := 57) (n := 3) (w0 := 0) (w1 := 3) (as := [vi 0, vi 999, vi 3]) (rest := []) (by decide +kernel) (q := 177) (nq := 7) (kq := 7) ⟨by decide, rfl⟩ rfl rfl rfl rfl (xe_mono (E_X6_takeNumber_177 s0 hG0 0 ⟨by omega, by omega⟩ 999 ⟨by omega, by omega⟩ 3 ⟨by omega, by omega⟩ i0_TK) ?_)
    rintro s25 v ⟨hG_s25, t_s25, z24, rfl, g_z24, xp_z24, TK_s25⟩
    have f_s25 : FL [1219, 1220, 1221, 1222, 1223] s0 s25 := f0.tr t_s25 (by decide)
    obtain ⟨z26, e_z26⟩ : ∃ z, z = s25 177 3 := ⟨_, rfl⟩
    have g_z26 : (0 : Int) ≤ s25 177 3 ∧ s25 177 3 ≤ 160 := hG_s25 177 3
    obtain ⟨z27, e_z27⟩ : ∃ z, z = s25 177 5 := ⟨_, rfl⟩
    have g_z27 : (0 : Int) ≤ s25 177 5 ∧ s25 177 5 ≤ 5 := hG_s25 177 5
    obtain ⟨z28, e_z28⟩ : ∃ z, z = s25 177 6 := ⟨_, rfl⟩
    have g_z28 : (-2147483648) ≤ s25 177 6 ∧ s25 177 6 ≤ 2147483647 := hG_s25 177 6
    show xe none 7 83 [(0, .ref 177), (1, vi 4)] [vi z24] s25 0 0 _
    exact x_iret k7_83 rfl ⟨hG_s25, f_s25, z24, rfl, ⟨by omega, by omega⟩, ⟨⟨fun h => (by (try rw [show a = 4 by omega]); exact LnC.one (by decide) rfl xp_z24.1), fun h => by exfalso; omega⟩, fun h h0 => (by (try rw [show a = 4 by omega]); exact LnZ.one (by decide) xp_z24.1 h0)⟩, TK_s25⟩
  · rw [c1]
    refine x_B k7_1 rfl (fun _ => rfl) (fun _ => rfl) (fun _ _ => rfl) ?_
    show xe none 7 84 [(0, .ref 177), (1, vi 5)] [] s0 0 0 _
    refine x_A k7_84 (fun _ => rfl) ?_
    refine x_A k7_85 (fun _ => rfl) ?_
    refine x_bipush k7_86 (by decide +kernel) ?_
    refine x_A k7_88 (fun _ => rfl) ?_
    refine x_callV k7_89 (y := 57) (n := 3) (w0 := 0) (w1 := 3) (as := [vi 0, vi 9, vi 3]) (rest := []) (by decide +kernel) (q := 177) (nq := 7) (kq := 7) ⟨by decide, rfl⟩ rfl rfl rfl rfl (xe_mono (E_X6_takeNumber_177 s0 hG0 0 ⟨by omega, by omega⟩ 9 ⟨by omega, by omega⟩ 3 ⟨by omega, by omega⟩ i0_TK) ?_)
    rintro s30 v ⟨hG_s30, t_s30, z29, rfl, g_z29, xp_z29, TK_s30⟩
    have f_s30 : FL [1219, 1220, 1221, 1222, 1223] s0 s30 := f0.tr t_s30 (by decide)
    obtain ⟨z31, e_z31⟩ : ∃ z, z = s30 177 3 := ⟨_, rfl⟩
    have g_z31 : (0 : Int) ≤ s30 177 3 ∧ s30 177 3 ≤ 160 := hG_s30 177 3
    obtain ⟨z32, e_z32⟩ : ∃ z, z = s30 177 5 := ⟨_, rfl⟩
    have g_z32 : (0 : Int) ≤ s30 177 5 ∧ s30 177 5 ≤ 5 := hG_s30 177 5
    obtain ⟨z33, e_z33⟩ : ∃ z, z = s30 177 6 := ⟨_, rfl⟩
    have g_z33 : (-2147483648) ≤ s30 177 6 ∧ s30 177 6 ≤ 2147483647 := hG_s30 177 6
    show xe none 7 92 [(0, .ref 177), (1, vi 5)] [vi z29] s30 0 0 _
    exact x_iret k7_92 rfl ⟨hG_s30, f_s30, z29, rfl, ⟨by omega, by omega⟩, ⟨⟨fun h => (by (try rw [show a = 5 by omega]); exact LnC.one (by decide) rfl xp_z29.1), fun h => by exfalso; omega⟩, fun h h0 => (by (try rw [show a = 5 by omega]); exact LnZ.one (by decide) xp_z29.1 h0)⟩, TK_s30⟩
  · refine x_tabD k7_1 ⟨by omega, by omega⟩ c1 (t0 := 93) rfl ?_
    refine x_A k7_93 (fun _ => rfl) ?_
    obtain ⟨z34, e_z34⟩ : ∃ z, z = s0 177 3 := ⟨_, rfl⟩
    have g_z34 : (0 : Int) ≤ s0 177 3 ∧ s0 177 3 ≤ 160 := hG0 177 3
    obtain ⟨z35, e_z35⟩ : ∃ z, z = s0 177 5 := ⟨_, rfl⟩
    have g_z35 : (0 : Int) ≤ s0 177 5 ∧ s0 177 5 ≤ 5 := hG0 177 5
    obtain ⟨z36, e_z36⟩ : ∃ z, z = s0 177 6 := ⟨_, rfl⟩
    have g_z36 : (-2147483648) ≤ s0 177 6 ∧ s0 177 6 ≤ 2147483647 := hG0 177 6
    exact x_iret k7_94 rfl ⟨hG0, f0, (-1), rfl, ⟨by omega, by omega⟩, ⟨⟨fun h => by exfalso; omega, fun h => by omega⟩, fun h => by exfalso; omega⟩, i0_TK⟩
set_option maxHeartbeats 8000000 in
theorem W_X0_readOne_218_177 (s0 : xS) (hG0 : GI s0) (p_218_6 : 0 ≤ s0 218 6 ∧ s0 218 6 ≤ 7) (pe : s0 177 5 = 0 → AI (s0 178) (s0 177 1) 1 (s0 218 5) (s0 177 3) ∧ wv (s0 178) (s0 177 1) (s0 177 3) ≠ 10631 ∧ ch (s0 178) (s0 177 1) (s0 177 3) ≠ 40) (i0_TK : TKs s0) : xe none 5 0 (lv_args 0 [.ref 218, .ref 177]) [] s0 0 0 (fun s' v => GI s' ∧ FL [2560, 2688, 1219, 1220, 1221, 1222, 1223] s0 s' ∧ v = none ∧ (((s0 177 5 ≠ 0 ∧ s' 177 5 = s0 177 5 ∧ s' 177 6 = s0 177 6) ∨ (s0 177 5 = 0 ∧ ((s' 177 5 = 0 ∧ AI (s0 178) (s0 177 1) 0 (s0 218 5) (s' 177 3) ∧ s0 177 3 + 2 ≤ s' 177 3) ∨ (s' 177 5 ≠ 0 ∧ AF (s0 178) (s0 177 1) (s' 177 5) (s' 177 6))))) ∧ KF s' s0 ∧ (s0 177 5 = 0 → s' 177 5 = 0 → lff (s0 178) (s0 177 1) (s0 177 3) = 0 ∧ s' 177 3 = lfn (s0 178) (s0 177 1) (s0 177 3) ∧ ∀ l r : List Int, CK s0 l r → (l.length : Int) + r.length ≤ 99 → CK s' l (lfc (s0 178) (s0 177 1) (s0 177 3) :: r))) ∧ TKs s') := by
  have f0 : FL [2560, 2688, 1219, 1220, 1221, 1222, 1223] s0 s0 := FL.rf
  show xe none 5 0 [(0, .ref 218), (1, .ref 177)] [] s0 0 0 _
  obtain ⟨z1, e_z1⟩ : ∃ z, z = s0 218 6 := ⟨_, rfl⟩
  have g_z1 : (0 : Int) ≤ s0 218 6 ∧ s0 218 6 ≤ 8 := hG0 218 6
  have tk := i0_TK
  unfold TKs TK at tk
  have tl := te_le (T := s0 178) (n := s0 177 1) (p := s0 177 3)
  obtain ⟨z2, e_z2⟩ : ∃ z, z = s0 177 1 := ⟨_, rfl⟩
  have g_z2 : (0 : Int) ≤ s0 177 1 ∧ s0 177 1 ≤ 160 := hG0 177 1
  obtain ⟨z3, e_z3⟩ : ∃ z, z = s0 177 3 := ⟨_, rfl⟩
  have g_z3 : (0 : Int) ≤ s0 177 3 ∧ s0 177 3 ≤ 160 := hG0 177 3
  obtain ⟨z4, e_z4⟩ : ∃ z, z = s0 177 5 := ⟨_, rfl⟩
  have g_z4 : (0 : Int) ≤ s0 177 5 ∧ s0 177 5 ≤ 5 := hG0 177 5
  obtain ⟨z5, e_z5⟩ : ∃ z, z = s0 177 6 := ⟨_, rfl⟩
  have g_z5 : (-2147483648) ≤ s0 177 6 ∧ s0 177 6 ≤ 2147483647 := hG0 177 6
  obtain ⟨z6, e_z6⟩ : ∃ z, z = s0 179 5 := ⟨_, rfl⟩
  have g_z6 : (0 : Int) ≤ s0 179 5 ∧ s0 179 5 ≤ 8 := hG0 179 5
  have KF_0 : KF s0 s0 := KF.rf
  refine x_A k5_0 (fun _ => rfl) ?_
  refine x_getI k5_1 (f := 5) rfl (q := 177) (n := 7) (kd := 7) ⟨by decide, rfl⟩ (by decide) rfl ?_
  refine x_rw (e_z4.symm) ?_
  refine x_if_eq k5_4 (t := 8) rfl ⟨by omega, by omega⟩ (fun c7 => ?_) (fun c7 => ?_)
  · skip
    refine x_A k5_8 (fun _ => rfl) ?_
    refine x_callS k5_9 (y := 6) (n := 1) (w0 := 0) (w1 := 1) (as := [.ref 177]) (rest := []) (by decide +kernel) rfl rfl rfl rfl (xe_mono (E_X0_oneKind_177 s0 hG0 i0_TK) ?_)
    rintro s9 v ⟨-, t_s9, z8, rfl, g_z8, xp_z8⟩
    rw [t_s9.nil]
    try rw [t_s9.nil] at xp_z8
    show xe none 5 12 [(0, .ref 218), (1, .ref 177)] [vi z8] s0 0 0 _
    have lc := lkd_r xp_z8
    clear xp_z8
    refine x_istore_n k5_12 (ls' := [(2, vi z8), (0, .ref 218), (1, .ref 177)]) (by decide) rfl ?_
    refine x_A k5_13 (fun _ => rfl) ?_
    refine x_A k5_14 (fun _ => rfl) ?_
    refine x_ic_ne k5_15 (t := 30) rfl ⟨by omega, by omega⟩ ⟨by omega, by omega⟩ (fun c10 => ?_) (fun c10 => ?_)
    · skip
      refine x_A k5_30 (fun _ => rfl) ?_
      obtain ⟨z11, e_z11⟩ : ∃ z, z = s0 177 4 := ⟨_, rfl⟩
      have g_z11 : (0 : Int) ≤ s0 177 4 ∧ s0 177 4 ≤ 160 := hG0 177 4
      refine x_callV k5_31 (y := 51) (n := 0) (w0 := 0) (w1 := 0) (as := []) (rest := []) (by decide +kernel) (q := 177) (nq := 7) (kq := 7) ⟨by decide, rfl⟩ rfl rfl rfl rfl (xe_mono (E_X6_advance_177 s0 hG0 (by omega)) ?_)
      rintro s13 v ⟨hG_s13, t_s13, rfl, xp_z12⟩
      have f_s13 : FL [2560, 2688, 1219, 1220, 1221, 1222, 1223] s0 s13 := f0.tr t_s13 (by decide)
      have q14 : s13 218 6 = z1 := (t_s13 218 6 (show 2503 ∉ [1219, 1220, 1221] from by decide)).trans e_z1.symm
      have q15 : s13 177 1 = z2 := (t_s13 177 1 (show 1218 ∉ [1219, 1220, 1221] from by decide)).trans e_z2.symm
      have q16 : s13 177 5 = z4 := (t_s13 177 5 (show 1222 ∉ [1219, 1220, 1221] from by decide)).trans e_z4.symm
      have q17 : s13 177 6 = z5 := (t_s13 177 6 (show 1223 ∉ [1219, 1220, 1221] from by decide)).trans e_z5.symm
      have q18 : s13 179 5 = z6 := (t_s13 179 5 (show 1350 ∉ [1219, 1220, 1221] from by decide)).trans e_z6.symm
      have KF_s13 : KF s13 s0 := KF.fl KF_0 t_s13 (by decide)
      show xe none 5 34 [(2, vi z8), (0, .ref 218), (1, .ref 177)] [] s13 0 0 _
      have tq19 := xp_z12
      rw [show s0 177 4 = te (s0 178) (s0 177 1) (s0 177 3) by omega] at tq19
      have TK_s13 : TKs s13 := TK.s tq19 (show s13 178 = s0 178 from funext fun i => f_s13 178 i (show 1280 ∉ [2560, 2688, 1219, 1220, 1221, 1222, 1223] from by decide)) (by omega)
      unfold TK at tq19
      obtain ⟨z20, e_z20⟩ : ∃ z, z = s13 177 3 := ⟨_, rfl⟩
      have g_z20 : (0 : Int) ≤ s13 177 3 ∧ s13 177 3 ≤ 160 := hG_s13 177 3
      have w2 := wv_2 (T := s0 178) (n := s0 177 1) (p := s0 177 3) (by omega)
      refine x_A k5_34 (fun _ => rfl) ?_
      refine x_A k5_35 (fun _ => rfl) ?_
      refine x_callS k5_36 (y := 7) (n := 2) (w0 := 0) (w1 := 2) (as := [.ref 177, vi z8]) (rest := []) (by decide +kernel) rfl rfl rfl rfl (xe_mono (W_X0_readNumber_177 s13 hG_s13 z8 ⟨by omega, by omega⟩ TK_s13) ?_)
      rintro s22 v ⟨hG_s22, t_s22, z21, rfl, g_z21, xp_z21, TK_s22⟩
      have f_s22 : FL [2560, 2688, 1219, 1220, 1221, 1222, 1223] s0 s22 := f_s13.tr t_s22 (by decide)
      have q23 : s22 218 6 = z1 := (t_s22 218 6 (show 2503 ∉ [1219, 1220, 1221, 1222, 1223] from by decide)).trans q14
      have q24 : s22 177 1 = z2 := (t_s22 177 1 (show 1218 ∉ [1219, 1220, 1221, 1222, 1223] from by decide)).trans q15
      have q25 : s22 179 5 = z6 := (t_s22 179 5 (show 1350 ∉ [1219, 1220, 1221, 1222, 1223] from by decide)).trans q18
      have KF_s22 : KF s22 s0 := KF.fl KF_s13 t_s22 (by decide)
      obtain ⟨z26, e_z26⟩ : ∃ z, z = s22 177 3 := ⟨_, rfl⟩
      have g_z26 : (0 : Int) ≤ s22 177 3 ∧ s22 177 3 ≤ 160 := hG_s22 177 3
      obtain ⟨z27, e_z27⟩ : ∃ z, z = s22 177 5 := ⟨_, rfl⟩
      have g_z27 : (0 : Int) ≤ s22 177 5 ∧ s22 177 5 ≤ 5 := hG_s22 177 5
      obtain ⟨z28, e_z28⟩ : ∃ z, z = s22 177 6 := ⟨_, rfl⟩
      have g_z28 : (-2147483648) ≤ s22 177 6 ∧ s22 177 6 ≤ 2147483647 := hG_s22 177 6
      show xe none 5 39 [(2, vi z8), (0, .ref 218), (1, .ref 177)] [vi z21] s22 0 0 _
      obtain ⟨xo_z21, xn_z21⟩ := xp_z21
      have l1 := xo_z21.1 (by omega)
      rw [show z8 = lkd (s0 178) (s0 177 1) (s0 177 3) by omega] at l1
      have l2 := LnC.lf l1 (show s13 178 = s0 178 from funext fun i => f_s13 178 i (show 1280 ∉ [2560, 2688, 1219, 1220, 1221, 1222, 1223] from by decide)) (f_s13 177 1 (show 1218 ∉ [2560, 2688, 1219, 1220, 1221, 1222, 1223] from by decide)) (by unfold nx; omega) (by omega) (by omega) (pe (by omega)).1 (pe (by omega)).2.1 (pe (by omega)).2.2
      refine x_istore_n k5_39 (ls' := [(3, vi z21), (2, vi z8), (0, .ref 218), (1, .ref 177)]) (by decide) rfl ?_
      refine x_A k5_40 (fun _ => rfl) ?_
      refine x_getI k5_41 (f := 5) rfl (q := 177) (n := 7) (kd := 7) ⟨by decide, rfl⟩ (by decide) rfl ?_
      refine x_rw (e_z27.symm) ?_
      refine x_if_ne k5_44 (t := 58) rfl ⟨by omega, by omega⟩ (fun c29 => ?_) (fun c29 => ?_)
      · skip
        exact x_vret k5_58 rfl ⟨hG_s22, f_s22, rfl, ⟨Or.inr ⟨by omega, l2.elim (fun u => Or.inl ⟨by omega, by rw [show s22 177 3 = s22 177 3 by omega]; exact u.2.2.1, by omega⟩) (fun u => Or.inr ⟨by omega, by rw [show s22 177 5 = s22 177 5 by omega, show s22 177 6 = s22 177 6 by omega]; exact u.2⟩)⟩, KF_s22, fun q h0 => by exfalso; omega⟩, TK_s22⟩
      · skip
        refine x_A k5_47 (fun _ => rfl) ?_
        refine x_A k5_48 (fun _ => rfl) ?_
        refine x_sipush k5_49 (by decide +kernel) ?_
        refine x_imul k5_52 ?_
        refine x_top (fun z30 e_z30 => ?_)
        refine x_A k5_53 (fun _ => rfl) ?_
        have lx := LnC.lfX l1 (show s13 178 = s0 178 from funext fun i => f_s13 178 i (show 1280 ∉ [2560, 2688, 1219, 1220, 1221, 1222, 1223] from by decide)) (f_s13 177 1 (show 1218 ∉ [2560, 2688, 1219, 1220, 1221, 1222, 1223] from by decide)) (by unfold nx; omega) (by omega) (by omega)
        have ev := xn_z21 ⟨by omega, by omega⟩ (by omega)
        rw [show s13 178 = s0 178 from funext fun i => f_s13 178 i (show 1280 ∉ [2560, 2688, 1219, 1220, 1221, 1222, 1223] from by decide), show s13 177 1 = s0 177 1 from f_s13 177 1 (show 1218 ∉ [2560, 2688, 1219, 1220, 1221, 1222, 1223] from by decide), show s13 177 3 = nx (s0 178) (s0 177 1) (s0 177 3) from (by unfold nx; omega), show z8 = lkd (s0 178) (s0 177 1) (s0 177 3) by omega] at ev
        have ob_ := lfc_ok lx.1
        unfold okc lfc at ob_
        rw [← ev] at ob_
        refine x_iadd k5_54 ?_
        refine x_top (fun z31 e_z31 => ?_)
        have fb_ : FL [1219, 1220, 1221, 1222, 1223] s0 s22 := ((FL.rf (L := [1219, 1220, 1221, 1222, 1223])).tr t_s13 (by decide)).tr t_s22 (by decide)
        refine x_callV k5_55 (y := 13) (n := 1) (w0 := 0) (w1 := 1) (as := [vi z31]) (rest := []) (by decide +kernel) (q := 218) (nq := 7) (kq := 11) ⟨by decide, rfl⟩ rfl rfl rfl rfl (xe_mono (W_X0_emit_218 s22 hG_s22 z31 ⟨by omega, by omega⟩ ⟨by omega, by omega⟩) ?_)
        rintro s33 v ⟨hG_s33, t_s33, rfl, xp_z32⟩
        have f_s33 : FL [2560, 2688, 1219, 1220, 1221, 1222, 1223] s0 s33 := f_s22.tr t_s33 (by decide)
        have q34 : s33 218 6 = z1 := (t_s33 218 6 (show 2503 ∉ [2560, 2688] from by decide)).trans q23
        have q35 : s33 177 1 = z2 := (t_s33 177 1 (show 1218 ∉ [2560, 2688] from by decide)).trans q24
        have q36 : s33 179 5 = z6 := (t_s33 179 5 (show 1350 ∉ [2560, 2688] from by decide)).trans q25
        have q37 : s33 177 3 = z26 := (t_s33 177 3 (show 1220 ∉ [2560, 2688] from by decide)).trans e_z26.symm
        have q38 : s33 177 5 = z27 := (t_s33 177 5 (show 1222 ∉ [2560, 2688] from by decide)).trans e_z27.symm
        have q39 : s33 177 6 = z28 := (t_s33 177 6 (show 1223 ∉ [2560, 2688] from by decide)).trans e_z28.symm
        have TK_s33 : TKs s33 := TKs.fl TK_s22 t_s33 (by decide)
        show xe none 5 58 [(3, vi z21), (2, vi z8), (0, .ref 218), (1, .ref 177)] [] s33 0 0 _
        have KF_e : KF s33 s0 := KF_s22.tr (by omega) xp_z32.1
        exact x_vret k5_58 rfl ⟨hG_s33, f_s33, rfl, ⟨Or.inr ⟨by omega, l2.elim (fun u => Or.inl ⟨by omega, by rw [show s33 177 3 = s22 177 3 by omega]; exact u.2.2.1, by omega⟩) (fun u => Or.inr ⟨by omega, by rw [show s33 177 5 = s22 177 5 by omega, show s33 177 6 = s22 177 6 by omega]; exact u.2⟩)⟩, KF_e, fun q h0 => (by have ec : z31 = lfc (s0 178) (s0 177 1) (s0 177 3) := (by unfold lfc; rw [← ev]; omega); exact ⟨lx.1, by rw [← lx.2]; omega, fun l r hk hl => by rw [← ec]; exact ((hk.fl fb_ (by omega) (by decide)).emit xp_z32 t_s33 (by omega))⟩)⟩, TK_s33⟩
    · skip
      refine x_A k5_18 (fun _ => rfl) ?_
      refine x_A k5_19 (fun _ => rfl) ?_
      refine x_A k5_20 (fun _ => rfl) ?_
      refine x_getI k5_21 (f := 3) rfl (q := 177) (n := 7) (kd := 7) ⟨by decide, rfl⟩ (by decide) rfl ?_
      refine x_rw (e_z3.symm) ?_
      refine x_callV k5_24 (y := 52) (n := 2) (w0 := 0) (w1 := 2) (as := [vi 1, vi z3]) (rest := []) (by decide +kernel) (q := 177) (nq := 7) (kq := 7) ⟨by decide, rfl⟩ rfl rfl rfl rfl (xe_mono (E_X6_fail_177 s0 hG0 1 ⟨by omega, by omega⟩ z3 ⟨by omega, by omega⟩) ?_)
      rintro s41 v ⟨hG_s41, t_s41, rfl, xp_z40⟩
      have f_s41 : FL [2560, 2688, 1219, 1220, 1221, 1222, 1223] s0 s41 := f0.tr t_s41 (by decide)
      have q42 : s41 218 6 = z1 := (t_s41 218 6 (show 2503 ∉ [1222, 1223] from by decide)).trans e_z1.symm
      have q43 : s41 177 1 = z2 := (t_s41 177 1 (show 1218 ∉ [1222, 1223] from by decide)).trans e_z2.symm
      have q44 : s41 177 3 = z3 := (t_s41 177 3 (show 1220 ∉ [1222, 1223] from by decide)).trans e_z3.symm
      have q45 : s41 179 5 = z6 := (t_s41 179 5 (show 1350 ∉ [1222, 1223] from by decide)).trans e_z6.symm
      have TK_s41 : TKs s41 := TKs.fl i0_TK t_s41 (by decide)
      have KF_s41 : KF s41 s0 := KF.fl KF_0 t_s41 (by decide)
      obtain ⟨z46, e_z46⟩ : ∃ z, z = s41 177 5 := ⟨_, rfl⟩
      have g_z46 : (0 : Int) ≤ s41 177 5 ∧ s41 177 5 ≤ 5 := hG_s41 177 5
      obtain ⟨z47, e_z47⟩ : ∃ z, z = s41 177 6 := ⟨_, rfl⟩
      have g_z47 : (-2147483648) ≤ s41 177 6 ∧ s41 177 6 ≤ 2147483647 := hG_s41 177 6
      show xe none 5 27 [(2, vi z8), (0, .ref 218), (1, .ref 177)] [] s41 0 0 _
      refine x_goto k5_27 (t := 34) rfl ?_
      refine x_A k5_34 (fun _ => rfl) ?_
      refine x_A k5_35 (fun _ => rfl) ?_
      refine x_callS k5_36 (y := 7) (n := 2) (w0 := 0) (w1 := 2) (as := [.ref 177, vi z8]) (rest := []) (by decide +kernel) rfl rfl rfl rfl (xe_mono (W_X0_readNumber_177 s41 hG_s41 z8 ⟨by omega, by omega⟩ TK_s41) ?_)
      rintro s49 v ⟨hG_s49, t_s49, z48, rfl, g_z48, xp_z48, TK_s49⟩
      have f_s49 : FL [2560, 2688, 1219, 1220, 1221, 1222, 1223] s0 s49 := f_s41.tr t_s49 (by decide)
      have q50 : s49 218 6 = z1 := (t_s49 218 6 (show 2503 ∉ [1219, 1220, 1221, 1222, 1223] from by decide)).trans q42
      have q51 : s49 177 1 = z2 := (t_s49 177 1 (show 1218 ∉ [1219, 1220, 1221, 1222, 1223] from by decide)).trans q43
      have q52 : s49 179 5 = z6 := (t_s49 179 5 (show 1350 ∉ [1219, 1220, 1221, 1222, 1223] from by decide)).trans q45
      have KF_s49 : KF s49 s0 := KF.fl KF_s41 t_s49 (by decide)
      obtain ⟨z53, e_z53⟩ : ∃ z, z = s49 177 3 := ⟨_, rfl⟩
      have g_z53 : (0 : Int) ≤ s49 177 3 ∧ s49 177 3 ≤ 160 := hG_s49 177 3
      obtain ⟨z54, e_z54⟩ : ∃ z, z = s49 177 5 := ⟨_, rfl⟩
      have g_z54 : (0 : Int) ≤ s49 177 5 ∧ s49 177 5 ≤ 5 := hG_s49 177 5
      obtain ⟨z55, e_z55⟩ : ∃ z, z = s49 177 6 := ⟨_, rfl⟩
      have g_z55 : (-2147483648) ≤ s49 177 6 ∧ s49 177 6 ≤ 2147483647 := hG_s49 177 6
      show xe none 5 39 [(2, vi z8), (0, .ref 218), (1, .ref 177)] [vi z48] s49 0 0 _
      obtain ⟨xo_z48, xn_z48⟩ := xp_z48
      refine x_istore_n k5_39 (ls' := [(3, vi z48), (2, vi z8), (0, .ref 218), (1, .ref 177)]) (by decide) rfl ?_
      refine x_A k5_40 (fun _ => rfl) ?_
      refine x_getI k5_41 (f := 5) rfl (q := 177) (n := 7) (kd := 7) ⟨by decide, rfl⟩ (by decide) rfl ?_
      refine x_rw (e_z54.symm) ?_
      refine x_if_ne k5_44 (t := 58) rfl ⟨by omega, by omega⟩ (fun c56 => ?_) (fun c56 => ?_)
      · skip
        exact x_vret k5_58 rfl ⟨hG_s49, f_s49, rfl, ⟨Or.inr ⟨by omega, Or.inr ⟨by omega, (by have lf := lff_k (T := s0 178) (n := s0 177 1) (p := s0 177 3) (by omega); have q := (pe (by omega)).1.lfb (pe (by omega)).2.1 (pe (by omega)).2.2 (by omega); rw [lf.1, lf.2] at q; rw [show s49 177 5 = 1 by omega, show s49 177 6 = s0 177 3 by omega]; exact q)⟩⟩, KF_s49, fun q h0 => by exfalso; omega⟩, TK_s49⟩
      · skip
        refine x_A k5_47 (fun _ => rfl) ?_
        refine x_A k5_48 (fun _ => rfl) ?_
        refine x_sipush k5_49 (by decide +kernel) ?_
        refine x_imul k5_52 ?_
        refine x_top (fun z57 e_z57 => ?_)
        refine x_A k5_53 (fun _ => rfl) ?_
        refine x_iadd k5_54 ?_
        refine x_topW (fun z58 g_z58 => ?_)
        unfold in32 at g_z58
        have fb_ : FL [1219, 1220, 1221, 1222, 1223] s0 s49 := ((FL.rf (L := [1219, 1220, 1221, 1222, 1223])).tr t_s41 (by decide)).tr t_s49 (by decide)
        refine x_callV k5_55 (y := 13) (n := 1) (w0 := 0) (w1 := 1) (as := [vi z58]) (rest := []) (by decide +kernel) (q := 218) (nq := 7) (kq := 11) ⟨by decide, rfl⟩ rfl rfl rfl rfl (xe_mono (W_X0_emit_218 s49 hG_s49 z58 ⟨by omega, by omega⟩ ⟨by omega, by omega⟩) ?_)
        rintro s60 v ⟨hG_s60, t_s60, rfl, xp_z59⟩
        have f_s60 : FL [2560, 2688, 1219, 1220, 1221, 1222, 1223] s0 s60 := f_s49.tr t_s60 (by decide)
        have q61 : s60 218 6 = z1 := (t_s60 218 6 (show 2503 ∉ [2560, 2688] from by decide)).trans q50
        have q62 : s60 177 1 = z2 := (t_s60 177 1 (show 1218 ∉ [2560, 2688] from by decide)).trans q51
        have q63 : s60 179 5 = z6 := (t_s60 179 5 (show 1350 ∉ [2560, 2688] from by decide)).trans q52
        have q64 : s60 177 3 = z53 := (t_s60 177 3 (show 1220 ∉ [2560, 2688] from by decide)).trans e_z53.symm
        have q65 : s60 177 5 = z54 := (t_s60 177 5 (show 1222 ∉ [2560, 2688] from by decide)).trans e_z54.symm
        have q66 : s60 177 6 = z55 := (t_s60 177 6 (show 1223 ∉ [2560, 2688] from by decide)).trans e_z55.symm
        have TK_s60 : TKs s60 := TKs.fl TK_s49 t_s60 (by decide)
        show xe none 5 58 [(3, vi z48), (2, vi z8), (0, .ref 218), (1, .ref 177)] [] s60 0 0 _
        have KF_e : KF s60 s0 := KF_s49.tr (by omega) xp_z59.1
        exact x_vret k5_58 rfl ⟨hG_s60, f_s60, rfl, ⟨Or.inr ⟨by omega, Or.inr ⟨by omega, (by have lf := lff_k (T := s0 178) (n := s0 177 1) (p := s0 177 3) (by omega); have q := (pe (by omega)).1.lfb (pe (by omega)).2.1 (pe (by omega)).2.2 (by omega); rw [lf.1, lf.2] at q; rw [show s60 177 5 = 1 by omega, show s60 177 6 = s0 177 3 by omega]; exact q)⟩⟩, KF_e, fun q h0 => by exfalso; omega⟩, TK_s60⟩
  · skip
    exact x_vret k5_7 rfl ⟨hG0, f0, rfl, ⟨Or.inl ⟨by omega, by omega, by omega⟩, KF_0, fun q h0 => by exfalso; omega⟩, i0_TK⟩
