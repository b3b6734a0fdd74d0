set_option maxHeartbeats 8000000 in
theorem E_X6_takeSign_177 (s0 : xS) (hG0 : GI s0) (a : Int) (b_a : 40 ≤ a ∧ a ≤ 59) (pa : a < 48 ∨ 57 < a) (i0_TK : TKs s0) : xe none 56 0 (lv_args 0 [.ref 177, vi a]) [] s0 0 0 (fun s' v => GI s' ∧ FL [1219, 1220, 1221, 1222, 1223] s0 s' ∧ v = none ∧ (TwC s0 s' (ch (s0 178) (s0 177 1) (s0 177 3) = a) ∧ (s' 177 5 = 0 → s0 177 5 = 0)) ∧ TKs s') := by
  have f0 : FL [1219, 1220, 1221, 1222, 1223] s0 s0 := FL.rf
  show xe none 56 0 [(0, .ref 177), (1, vi a)] [] s0 0 0 _
  have tk := i0_TK
  unfold TKs TK at tk
  have tl := te_le (T := s0 178) (n := s0 177 1) (p := s0 177 3)
  obtain ⟨z1, e_z1⟩ : ∃ z, z = s0 177 3 := ⟨_, rfl⟩
  have g_z1 : (0 : Int) ≤ s0 177 3 ∧ s0 177 3 ≤ 160 := hG0 177 3
  obtain ⟨z2, e_z2⟩ : ∃ z, z = s0 177 5 := ⟨_, rfl⟩
  have g_z2 : (0 : Int) ≤ s0 177 5 ∧ s0 177 5 ≤ 5 := hG0 177 5
  obtain ⟨z3, e_z3⟩ : ∃ z, z = s0 177 6 := ⟨_, rfl⟩
  have g_z3 : (-2147483648) ≤ s0 177 6 ∧ s0 177 6 ≤ 2147483647 := hG0 177 6
  refine x_A k56_0 (fun _ => rfl) ?_
  refine x_A k56_1 (fun _ => rfl) ?_
  refine x_callV k56_2 (y := 54) (n := 1) (w0 := 0) (w1 := 1) (as := [vi a]) (rest := []) (by decide +kernel) (q := 177) (nq := 7) (kq := 7) ⟨by decide, rfl⟩ rfl rfl rfl rfl (xe_mono (E_X6_isSign_177 s0 hG0 a (by first | exact x_rb b_a rfl rfl | exact ⟨by omega, by omega⟩) (by omega) i0_TK) ?_)
  rintro s5 v ⟨-, t_s5, z4, rfl, g_z4, xp_z4⟩
  rw [t_s5.nil]
  try rw [t_s5.nil] at xp_z4
  show xe none 56 5 [(0, .ref 177), (1, vi a)] [vi z4] s0 0 0 _
  refine x_if_ne k56_5 (t := 17) rfl (by first | exact x_rbe e_z4 g_z4 rfl rfl | exact x_rb g_z4 rfl rfl | exact ⟨by omega, by omega⟩) (fun c6 => ?_) (fun c6 => ?_)
  · skip
    refine x_A k56_17 (fun _ => rfl) ?_
    refine x_getI k56_18 (f := 5) rfl (q := 177) (n := 7) (kd := 7) ⟨by decide, rfl⟩ (by decide) rfl ?_
    refine x_rw (e_z2.symm) ?_
    refine x_if_ne k56_21 (t := 28) rfl (by first | exact x_rbe e_z2 g_z2 rfl rfl | exact x_rb g_z2 rfl rfl | exact ⟨by omega, by omega⟩) (fun c7 => ?_) (fun c7 => ?_)
    · skip
      exact x_vret k56_28 rfl ⟨hG0, f0, rfl, ⟨(by unfold TwC nx; omega), by omega⟩, i0_TK⟩
    · skip
      refine x_A k56_24 (fun _ => rfl) ?_
      obtain ⟨z8, e_z8⟩ : ∃ z, z = s0 177 1 := ⟨_, rfl⟩
      have g_z8 : (0 : Int) ≤ s0 177 1 ∧ s0 177 1 ≤ 160 := hG0 177 1
      obtain ⟨z9, e_z9⟩ : ∃ z, z = s0 177 4 := ⟨_, rfl⟩
      have g_z9 : (0 : Int) ≤ s0 177 4 ∧ s0 177 4 ≤ 160 := hG0 177 4
      refine x_callV k56_25 (y := 51) (n := 0) (w0 := 0) (w1 := 0) (as := []) (rest := []) (by decide +kernel) (q := 177) (nq := 7) (kq := 7) ⟨by decide, rfl⟩ rfl rfl rfl rfl (xe_mono (E_X6_advance_177 s0 hG0 (by omega)) ?_)
      rintro s11 v ⟨hG_s11, t_s11, rfl, xp_z10⟩
      have f_s11 : FL [1219, 1220, 1221, 1222, 1223] s0 s11 := f0.tr t_s11 (by decide +kernel)
      have q12 : s11 177 5 = z2 := (t_s11 177 5 (show 1222 ∉ [1219, 1220, 1221] from by decide +kernel)).trans e_z2.symm
      have q13 : s11 177 6 = z3 := (t_s11 177 6 (show 1223 ∉ [1219, 1220, 1221] from by decide +kernel)).trans e_z3.symm
      have q14 : s11 177 1 = z8 := (t_s11 177 1 (show 1218 ∉ [1219, 1220, 1221] from by decide +kernel)).trans e_z8.symm
      show xe none 56 28 [(0, .ref 177), (1, vi a)] [] s11 0 0 _
      have tq15 := xp_z10
      rw [show s0 177 4 = te (s0 178) (s0 177 1) (s0 177 3) by omega] at tq15
      have TK_s11 : TKs s11 := TK.s tq15 (show s11 178 = s0 178 from funext fun i => f_s11 178 i (show 1280 ∉ [1219, 1220, 1221, 1222, 1223] from by decide +kernel)) (by omega)
      unfold TK at tq15
      obtain ⟨z16, e_z16⟩ : ∃ z, z = s11 177 3 := ⟨_, rfl⟩
      have g_z16 : (0 : Int) ≤ s11 177 3 ∧ s11 177 3 ≤ 160 := hG_s11 177 3
      exact x_vret k56_28 rfl ⟨hG_s11, f_s11, rfl, ⟨(by unfold TwC nx; omega), by omega⟩, TK_s11⟩
  · skip
    refine x_A k56_8 (fun _ => rfl) ?_
    refine x_A k56_9 (fun _ => rfl) ?_
    refine x_A k56_10 (fun _ => rfl) ?_
    refine x_getI k56_11 (f := 3) rfl (q := 177) (n := 7) (kd := 7) ⟨by decide, rfl⟩ (by decide) rfl ?_
    refine x_rw (e_z1.symm) ?_
    refine x_callV k56_14 (y := 52) (n := 2) (w0 := 0) (w1 := 2) (as := [vi 1, vi z1]) (rest := []) (by decide +kernel) (q := 177) (nq := 7) (kq := 7) ⟨by decide, rfl⟩ rfl rfl rfl rfl (xe_mono (E_X6_fail_177 s0 hG0 1 ⟨by decide, by decide⟩ z1 (by first | exact x_rbe e_z1 g_z1 rfl rfl | exact x_rb g_z1 rfl rfl | exact ⟨by omega, by omega⟩)) ?_)
    rintro s18 v ⟨hG_s18, t_s18, rfl, xp_z17⟩
    have f_s18 : FL [1219, 1220, 1221, 1222, 1223] s0 s18 := f0.tr t_s18 (by decide +kernel)
    have q19 : s18 177 3 = z1 := (t_s18 177 3 (show 1220 ∉ [1222, 1223] from by decide +kernel)).trans e_z1.symm
    have TK_s18 : TKs s18 := TKs.fl i0_TK t_s18 (by decide +kernel)
    obtain ⟨z20, e_z20⟩ : ∃ z, z = s18 177 5 := ⟨_, rfl⟩
    have g_z20 : (0 : Int) ≤ s18 177 5 ∧ s18 177 5 ≤ 5 := hG_s18 177 5
    obtain ⟨z21, e_z21⟩ : ∃ z, z = s18 177 6 := ⟨_, rfl⟩
    have g_z21 : (-2147483648) ≤ s18 177 6 ∧ s18 177 6 ≤ 2147483647 := hG_s18 177 6
    show xe none 56 17 [(0, .ref 177), (1, vi a)] [] s18 0 0 _
    refine x_A k56_17 (fun _ => rfl) ?_
    refine x_getI k56_18 (f := 5) rfl (q := 177) (n := 7) (kd := 7) ⟨by decide, rfl⟩ (by decide) rfl ?_
    refine x_rw (e_z20.symm) ?_
    refine x_if_ne k56_21 (t := 28) rfl (by first | exact x_rbe e_z20 g_z20 rfl rfl | exact x_rb g_z20 rfl rfl | exact ⟨by omega, by omega⟩) (fun c22 => ?_) (fun c22 => by exfalso; omega)
    exact x_vret k56_28 rfl ⟨hG_s18, f_s18, rfl, ⟨(by unfold TwC nx; omega), by omega⟩, TK_s18⟩
set_option maxHeartbeats 8000000 in
theorem E_X6_startReading_177 (s0 : xS) (hG0 : GI s0)  : xe none 48 0 (lv_args 0 [.ref 177]) [] s0 0 0 (fun s' v => GI s' ∧ FL [1219, 1220, 1221, 1222, 1223] s0 s' ∧ v = none ∧ (s' 177 5 = 0 ∧ s' 177 6 = -1 ∧ TK s' (s0 178) (s0 177 1) (sk (s0 178) (s0 177 1) 0))) := by
  have f0 : FL [1219, 1220, 1221, 1222, 1223] s0 s0 := FL.rf
  show xe none 48 0 [(0, .ref 177)] [] s0 0 0 _
  obtain ⟨z1, e_z1⟩ : ∃ z, z = s0 177 1 := ⟨_, rfl⟩
  have g_z1 : (0 : Int) ≤ s0 177 1 ∧ s0 177 1 ≤ 160 := hG0 177 1
  refine x_A k48_0 (fun _ => rfl) ?_
  refine x_A k48_1 (fun _ => rfl) ?_
  refine x_putI k48_2 (f := 5) rfl (q := 177) (n := 7) (kd := 7) ⟨by decide, rfl⟩ rfl rfl rfl ?_
  refine x_nh (fun s2 e_s2 => ?_)
  have hG_s2 : GI s2 := by rw [e_s2]; exact hG0.up (show 0 ≤ 0 ∧ 0 ≤ 5 from ⟨by decide, by decide⟩)
  have f_s2 : FL [1219, 1220, 1221, 1222, 1223] s0 s2 := by rw [e_s2]; exact f0.up (show 1222 ∈ [1219, 1220, 1221, 1222, 1223] from by decide +kernel)
  have q3 : s2 177 1 = z1 := by rw [e_s2, x_up_i (by decide)]; exact e_z1.symm
  have q4 : s2 177 5 = 0 := by rw [e_s2]; exact x_up_same
  refine x_A k48_5 (fun _ => rfl) ?_
  refine x_A k48_6 (fun _ => rfl) ?_
  refine x_putI k48_7 (f := 6) rfl (q := 177) (n := 7) (kd := 7) ⟨by decide, rfl⟩ rfl rfl rfl ?_
  refine x_nh (fun s5 e_s5 => ?_)
  have hG_s5 : GI s5 := by rw [e_s5]; exact hG_s2.up (show (-2147483648) ≤ (-1) ∧ (-1) ≤ 2147483647 from ⟨by decide, by decide⟩)
  have f_s5 : FL [1219, 1220, 1221, 1222, 1223] s0 s5 := by rw [e_s5]; exact f_s2.up (show 1223 ∈ [1219, 1220, 1221, 1222, 1223] from by decide +kernel)
  have q6 : s5 177 1 = z1 := by rw [e_s5, x_up_i (by decide)]; exact q3
  have q7 : s5 177 5 = 0 := by rw [e_s5, x_up_i (by decide)]; exact q4
  have q8 : s5 177 6 = (-1) := by rw [e_s5]; exact x_up_same
  refine x_A k48_10 (fun _ => rfl) ?_
  refine x_A k48_11 (fun _ => rfl) ?_
  refine x_putI k48_12 (f := 4) rfl (q := 177) (n := 7) (kd := 7) ⟨by decide, rfl⟩ rfl rfl rfl ?_
  refine x_nh (fun s9 e_s9 => ?_)
  have hG_s9 : GI s9 := by rw [e_s9]; exact hG_s5.up (show 0 ≤ 0 ∧ 0 ≤ 160 from ⟨by decide, by decide⟩)
  have f_s9 : FL [1219, 1220, 1221, 1222, 1223] s0 s9 := by rw [e_s9]; exact f_s5.up (show 1221 ∈ [1219, 1220, 1221, 1222, 1223] from by decide +kernel)
  have q10 : s9 177 1 = z1 := by rw [e_s9, x_up_i (by decide)]; exact q6
  have q11 : s9 177 5 = 0 := by rw [e_s9, x_up_i (by decide)]; exact q7
  have q12 : s9 177 6 = (-1) := by rw [e_s9, x_up_i (by decide)]; exact q8
  have q13 : s9 177 4 = 0 := by rw [e_s9]; exact x_up_same
  refine x_A k48_15 (fun _ => rfl) ?_
  refine x_callV k48_16 (y := 51) (n := 0) (w0 := 0) (w1 := 0) (as := []) (rest := []) (by decide +kernel) (q := 177) (nq := 7) (kq := 7) ⟨by decide, rfl⟩ rfl rfl rfl rfl (xe_mono (E_X6_advance_177 s9 hG_s9 (by omega)) ?_)
  rintro s15 v ⟨hG_s15, t_s15, rfl, xp_z14⟩
  have f_s15 : FL [1219, 1220, 1221, 1222, 1223] s0 s15 := f_s9.tr t_s15 (by decide +kernel)
  have q16 : s15 177 1 = z1 := (t_s15 177 1 (show 1218 ∉ [1219, 1220, 1221] from by decide +kernel)).trans q10
  have q17 : s15 177 5 = 0 := (t_s15 177 5 (show 1222 ∉ [1219, 1220, 1221] from by decide +kernel)).trans q11
  have q18 : s15 177 6 = (-1) := (t_s15 177 6 (show 1223 ∉ [1219, 1220, 1221] from by decide +kernel)).trans q12
  show xe none 48 19 [(0, .ref 177)] [] s15 0 0 _
  have tq := xp_z14
  rw [show s9 178 = s0 178 from (show s9 178 = s0 178 from funext fun i => f_s9 178 i (show 1280 ∉ [1219, 1220, 1221, 1222, 1223] from by decide +kernel)), show s9 177 1 = s0 177 1 by omega, show s9 177 4 = 0 by omega] at tq
  exact x_vret k48_19 rfl ⟨hG_s15, f_s15, rfl, ⟨by omega, by omega, tq⟩⟩
set_option maxHeartbeats 8000000 in
theorem E_X4_clauseKind_177 (s0 : xS) (hG0 : GI s0) (i0_TK : TKs s0) : xe none 36 0 (lv_args 0 [.ref 177]) [] s0 0 0 (fun s' v => GI s' ∧ FL [] s0 s' ∧ ∃ z, v = some (vi z) ∧ ((-1) ≤ z ∧ z ≤ 6) ∧ (z = kwd (s0 178) (s0 177 1) (s0 177 3))) := by
  have f0 : FL [] s0 s0 := FL.rf
  show xe none 36 0 [(0, .ref 177)] [] s0 0 0 _
  refine x_A k36_0 (fun _ => rfl) ?_
  refine x_ldcR k36_1 (q := 2009) rfl ?_
  refine x_callV k36_3 (y := 53) (n := 1) (w0 := 0) (w1 := 1) (as := [.ref 2009]) (rest := []) (by decide +kernel) (q := 177) (nq := 7) (kq := 7) ⟨by decide, rfl⟩ rfl rfl rfl rfl (xe_mono (E_X6_isWord_177_2009 s0 hG0 i0_TK) ?_)
  rintro s2 v ⟨-, t_s2, z1, rfl, g_z1, xp_z1⟩
  rw [t_s2.nil]
  try rw [t_s2.nil] at xp_z1
  show xe none 36 6 [(0, .ref 177)] [vi z1] s0 0 0 _
  refine x_if_eq k36_6 (t := 11) rfl (by first | exact x_rbe e_z1 g_z1 rfl rfl | exact x_rb g_z1 rfl rfl | exact ⟨by omega, by omega⟩) (fun c3 => ?_) (fun c3 => ?_)
  · skip
    refine x_A k36_11 (fun _ => rfl) ?_
    refine x_ldcR k36_12 (q := 2010) rfl ?_
    refine x_callV k36_14 (y := 53) (n := 1) (w0 := 0) (w1 := 1) (as := [.ref 2010]) (rest := []) (by decide +kernel) (q := 177) (nq := 7) (kq := 7) ⟨by decide, rfl⟩ rfl rfl rfl rfl (xe_mono (E_X6_isWord_177_2010 s0 hG0 i0_TK) ?_)
    rintro s5 v ⟨-, t_s5, z4, rfl, g_z4, xp_z4⟩
    rw [t_s5.nil]
    try rw [t_s5.nil] at xp_z4
    show xe none 36 17 [(0, .ref 177)] [vi z4] s0 0 0 _
    refine x_if_eq k36_17 (t := 22) rfl (by first | exact x_rbe e_z4 g_z4 rfl rfl | exact x_rb g_z4 rfl rfl | exact ⟨by omega, by omega⟩) (fun c6 => ?_) (fun c6 => ?_)
    · skip
      refine x_A k36_22 (fun _ => rfl) ?_
      refine x_ldcR k36_23 (q := 2011) rfl ?_
      refine x_callV k36_25 (y := 53) (n := 1) (w0 := 0) (w1 := 1) (as := [.ref 2011]) (rest := []) (by decide +kernel) (q := 177) (nq := 7) (kq := 7) ⟨by decide, rfl⟩ rfl rfl rfl rfl (xe_mono (E_X6_isWord_177_2011 s0 hG0 i0_TK) ?_)
      rintro s8 v ⟨-, t_s8, z7, rfl, g_z7, xp_z7⟩
      rw [t_s8.nil]
      try rw [t_s8.nil] at xp_z7
      show xe none 36 28 [(0, .ref 177)] [vi z7] s0 0 0 _
      refine x_if_eq k36_28 (t := 33) rfl (by first | exact x_rbe e_z7 g_z7 rfl rfl | exact x_rb g_z7 rfl rfl | exact ⟨by omega, by omega⟩) (fun c9 => ?_) (fun c9 => ?_)
      · skip
        refine x_A k36_33 (fun _ => rfl) ?_
        refine x_ldcR k36_34 (q := 2012) rfl ?_
        refine x_callV k36_36 (y := 53) (n := 1) (w0 := 0) (w1 := 1) (as := [.ref 2012]) (rest := []) (by decide +kernel) (q := 177) (nq := 7) (kq := 7) ⟨by decide, rfl⟩ rfl rfl rfl rfl (xe_mono (E_X6_isWord_177_2012 s0 hG0 i0_TK) ?_)
        rintro s11 v ⟨-, t_s11, z10, rfl, g_z10, xp_z10⟩
        rw [t_s11.nil]
        try rw [t_s11.nil] at xp_z10
        show xe none 36 39 [(0, .ref 177)] [vi z10] s0 0 0 _
        refine x_if_eq k36_39 (t := 44) rfl (by first | exact x_rbe e_z10 g_z10 rfl rfl | exact x_rb g_z10 rfl rfl | exact ⟨by omega, by omega⟩) (fun c12 => ?_) (fun c12 => ?_)
        · skip
          refine x_A k36_44 (fun _ => rfl) ?_
          refine x_ldcR k36_45 (q := 2013) rfl ?_
          refine x_callV k36_47 (y := 53) (n := 1) (w0 := 0) (w1 := 1) (as := [.ref 2013]) (rest := []) (by decide +kernel) (q := 177) (nq := 7) (kq := 7) ⟨by decide, rfl⟩ rfl rfl rfl rfl (xe_mono (E_X6_isWord_177_2013 s0 hG0 i0_TK) ?_)
          rintro s14 v ⟨-, t_s14, z13, rfl, g_z13, xp_z13⟩
          rw [t_s14.nil]
          try rw [t_s14.nil] at xp_z13
          show xe none 36 50 [(0, .ref 177)] [vi z13] s0 0 0 _
          refine x_if_eq k36_50 (t := 55) rfl (by first | exact x_rbe e_z13 g_z13 rfl rfl | exact x_rb g_z13 rfl rfl | exact ⟨by omega, by omega⟩) (fun c15 => ?_) (fun c15 => ?_)
          · skip
            refine x_A k36_55 (fun _ => rfl) ?_
            refine x_ldcR k36_56 (q := 2014) rfl ?_
            refine x_callV k36_58 (y := 53) (n := 1) (w0 := 0) (w1 := 1) (as := [.ref 2014]) (rest := []) (by decide +kernel) (q := 177) (nq := 7) (kq := 7) ⟨by decide, rfl⟩ rfl rfl rfl rfl (xe_mono (E_X6_isWord_177_2014 s0 hG0 i0_TK) ?_)
            rintro s17 v ⟨-, t_s17, z16, rfl, g_z16, xp_z16⟩
            rw [t_s17.nil]
            try rw [t_s17.nil] at xp_z16
            show xe none 36 61 [(0, .ref 177)] [vi z16] s0 0 0 _
            refine x_if_eq k36_61 (t := 67) rfl (by first | exact x_rbe e_z16 g_z16 rfl rfl | exact x_rb g_z16 rfl rfl | exact ⟨by omega, by omega⟩) (fun c18 => ?_) (fun c18 => ?_)
            · skip
              refine x_A k36_67 (fun _ => rfl) ?_
              exact x_iret k36_68 rfl ⟨hG0, f0, (-1), rfl, ⟨by decide, by decide⟩, (by have kc := kwd_cs (s0 178) (s0 177 1) (s0 177 3); omega)⟩
            · skip
              refine x_bipush k36_64 (by decide +kernel) ?_
              exact x_iret k36_66 rfl ⟨hG0, f0, 6, rfl, ⟨by decide, by decide⟩, (by have kc := kwd_cs (s0 178) (s0 177 1) (s0 177 3); omega)⟩
          · skip
            refine x_A k36_53 (fun _ => rfl) ?_
            exact x_iret k36_54 rfl ⟨hG0, f0, 5, rfl, ⟨by decide, by decide⟩, (by have kc := kwd_cs (s0 178) (s0 177 1) (s0 177 3); omega)⟩
        · skip
          refine x_A k36_42 (fun _ => rfl) ?_
          exact x_iret k36_43 rfl ⟨hG0, f0, 4, rfl, ⟨by decide, by decide⟩, (by have kc := kwd_cs (s0 178) (s0 177 1) (s0 177 3); omega)⟩
      · skip
        refine x_A k36_31 (fun _ => rfl) ?_
        exact x_iret k36_32 rfl ⟨hG0, f0, 3, rfl, ⟨by decide, by decide⟩, (by have kc := kwd_cs (s0 178) (s0 177 1) (s0 177 3); omega)⟩
    · skip
      refine x_A k36_20 (fun _ => rfl) ?_
      exact x_iret k36_21 rfl ⟨hG0, f0, 2, rfl, ⟨by decide, by decide⟩, (by have kc := kwd_cs (s0 178) (s0 177 1) (s0 177 3); omega)⟩
  · skip
    refine x_A k36_9 (fun _ => rfl) ?_
    exact x_iret k36_10 rfl ⟨hG0, f0, 1, rfl, ⟨by decide, by decide⟩, (by have kc := kwd_cs (s0 178) (s0 177 1) (s0 177 3); omega)⟩
