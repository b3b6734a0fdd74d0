theorem C_X6_startReading_177 (s0 : xS) (hG0 : GI s0)  : xe none 48 0 (lv_args 0 [.ref 177]) [] s0 0 0 (fun s' v => GI s' ∧ FL [1219, 1220, 1221, 1222, 1223] s0 s' ∧ v = none) := by
  have f0 : FL [1219, 1220, 1221, 1222, 1223] s0 s0 := FL.rf
  show xe none 48 0 [(0, .ref 177)] [] s0 0 0 _
  refine x_A k48_0 (fun _ => rfl) ?_
  refine x_A k48_1 (fun _ => rfl) ?_
  refine x_putI k48_2 (f := 5) rfl (q := 177) (n := 7) (kd := 7) ⟨by decide, rfl⟩ rfl rfl rfl ?_
  refine x_nh (fun s1 e_s1 => ?_)
  have hG_s1 : GI s1 := by rw [e_s1]; exact hG0.up (show 0 ≤ 0 ∧ 0 ≤ 5 from ⟨by decide, by decide⟩)
  have f_s1 : FL [1219, 1220, 1221, 1222, 1223] s0 s1 := by rw [e_s1]; exact f0.up (show 1222 ∈ [1219, 1220, 1221, 1222, 1223] from by decide +kernel)
  have q2 : s1 177 5 = 0 := by rw [e_s1]; exact x_up_same
  refine x_A k48_5 (fun _ => rfl) ?_
  refine x_A k48_6 (fun _ => rfl) ?_
  refine x_putI k48_7 (f := 6) rfl (q := 177) (n := 7) (kd := 7) ⟨by decide, rfl⟩ rfl rfl rfl ?_
  refine x_nh (fun s3 e_s3 => ?_)
  have hG_s3 : GI s3 := by rw [e_s3]; exact hG_s1.up (show (-2147483648) ≤ (-1) ∧ (-1) ≤ 2147483647 from ⟨by decide, by decide⟩)
  have f_s3 : FL [1219, 1220, 1221, 1222, 1223] s0 s3 := by rw [e_s3]; exact f_s1.up (show 1223 ∈ [1219, 1220, 1221, 1222, 1223] from by decide +kernel)
  have q4 : s3 177 5 = 0 := by rw [e_s3, x_up_i (by decide)]; exact q2
  have q5 : s3 177 6 = (-1) := by rw [e_s3]; exact x_up_same
  refine x_A k48_10 (fun _ => rfl) ?_
  refine x_A k48_11 (fun _ => rfl) ?_
  refine x_putI k48_12 (f := 4) rfl (q := 177) (n := 7) (kd := 7) ⟨by decide, rfl⟩ rfl rfl rfl ?_
  refine x_nh (fun s6 e_s6 => ?_)
  have hG_s6 : GI s6 := by rw [e_s6]; exact hG_s3.up (show 0 ≤ 0 ∧ 0 ≤ 160 from ⟨by decide, by decide⟩)
  have f_s6 : FL [1219, 1220, 1221, 1222, 1223] s0 s6 := by rw [e_s6]; exact f_s3.up (show 1221 ∈ [1219, 1220, 1221, 1222, 1223] from by decide +kernel)
  have q7 : s6 177 5 = 0 := by rw [e_s6, x_up_i (by decide)]; exact q4
  have q8 : s6 177 6 = (-1) := by rw [e_s6, x_up_i (by decide)]; exact q5
  have q9 : s6 177 4 = 0 := by rw [e_s6]; exact x_up_same
  refine x_A k48_15 (fun _ => rfl) ?_
  refine x_callV k48_16 (y := 51) (n := 0) (w0 := 0) (w1 := 0) (as := []) (rest := []) (by decide +kernel) (q := 177) (nq := 7) (kq := 7) ⟨by decide, rfl⟩ rfl rfl rfl rfl (xe_mono (C_X6_advance_177 s6 hG_s6) ?_)
  rintro s11 v ⟨hG_s11, t_s11, rfl⟩
  have f_s11 : FL [1219, 1220, 1221, 1222, 1223] s0 s11 := f_s6.tr t_s11 (by decide +kernel)
  have q12 : s11 177 5 = 0 := (t_s11 177 5 (show 1222 ∉ [1219, 1220, 1221] from by decide +kernel)).trans q7
  have q13 : s11 177 6 = (-1) := (t_s11 177 6 (show 1223 ∉ [1219, 1220, 1221] from by decide +kernel)).trans q8
  show xe none 48 19 [(0, .ref 177)] [] s11 0 0 _
  exact x_vret k48_19 rfl ⟨hG_s11, f_s11, rfl⟩
theorem C_X6_isSign_177 (s0 : xS) (hG0 : GI s0) (a : Int) (b_a : (-2147483648) ≤ a ∧ a ≤ 2147483647) : xe none 54 0 (lv_args 0 [.ref 177, vi a]) [] s0 0 0 (fun s' v => GI s' ∧ FL [] s0 s' ∧ ∃ z, v = some (vi z) ∧ (0 ≤ z ∧ z ≤ 1)) := by
  have f0 : FL [] s0 s0 := FL.rf
  show xe none 54 0 [(0, .ref 177), (1, vi a)] [] s0 0 0 _
  refine x_A k54_0 (fun _ => rfl) ?_
  refine x_getI k54_1 (f := 2) rfl (q := 177) (n := 7) (kd := 7) ⟨by decide, rfl⟩ (by decide) rfl ?_
  refine x_top (fun z1 e_z1 => ?_)
  have g_z1 : (0 : Int) ≤ s0 177 2 ∧ s0 177 2 ≤ 3 := hG0 177 2
  refine x_A k54_4 (fun _ => rfl) ?_
  refine x_ic_ne k54_5 (t := 24) rfl (by first | exact x_rbe e_z1 g_z1 rfl rfl | exact x_rb g_z1 rfl rfl | exact ⟨by omega, by omega⟩) ⟨by decide, by decide⟩ (fun c2 => ?_) (fun c2 => ?_)
  · skip
    refine x_A k54_24 (fun _ => rfl) ?_
    exact x_zret k54_25 rfl ⟨by omega, by omega⟩ ⟨hG0, f0, 0, rfl, ⟨by decide, by decide⟩⟩
  · skip
    refine x_A k54_8 (fun _ => rfl) ?_
    refine x_A k54_9 (fun _ => rfl) ?_
    refine x_getI k54_10 (f := 3) rfl (q := 177) (n := 7) (kd := 7) ⟨by decide, rfl⟩ (by decide) rfl ?_
    refine x_top (fun z3 e_z3 => ?_)
    have g_z3 : (0 : Int) ≤ s0 177 3 ∧ s0 177 3 ≤ 160 := hG0 177 3
    refine x_callV k54_13 (y := 49) (n := 1) (w0 := 0) (w1 := 1) (as := [vi z3]) (rest := []) (by decide +kernel) (q := 177) (nq := 7) (kq := 7) ⟨by decide, rfl⟩ rfl rfl rfl rfl (xe_mono (C_X6_byteAt_177 s0 hG0 z3 (by first | exact x_rbe e_z3 g_z3 rfl rfl | exact x_rb g_z3 rfl rfl | exact ⟨by omega, by omega⟩)) ?_)
    rintro s5 v ⟨h_s5, z4, rfl, g_z4⟩
    rw [h_s5]
    show xe none 54 16 [(0, .ref 177), (1, vi a)] [vi z4] s0 0 0 _
    refine x_A k54_16 (fun _ => rfl) ?_
    refine x_ic_ne k54_17 (t := 24) rfl (by first | exact x_rbe e_z4 g_z4 rfl rfl | exact x_rb g_z4 rfl rfl | exact ⟨by omega, by omega⟩) (by first | exact x_rb b_a rfl rfl | exact ⟨by omega, by omega⟩) (fun c6 => ?_) (fun c6 => ?_)
    · skip
      refine x_A k54_24 (fun _ => rfl) ?_
      exact x_zret k54_25 rfl ⟨by omega, by omega⟩ ⟨hG0, f0, 0, rfl, ⟨by decide, by decide⟩⟩
    · skip
      refine x_A k54_20 (fun _ => rfl) ?_
      refine x_goto k54_21 (t := 25) rfl ?_
      exact x_zret k54_25 rfl ⟨by omega, by omega⟩ ⟨hG0, f0, 1, rfl, ⟨by decide, by decide⟩⟩
theorem C_X6_takeSign_177 (s0 : xS) (hG0 : GI s0) (a : Int) (b_a : (-2147483648) ≤ a ∧ a ≤ 2147483647) : xe none 56 0 (lv_args 0 [.ref 177, vi a]) [] s0 0 0 (fun s' v => GI s' ∧ FL [1219, 1220, 1221, 1222, 1223] s0 s' ∧ v = none ∧ (s' 177 5 = 0 → s0 177 5 = 0)) := by
  have f0 : FL [1219, 1220, 1221, 1222, 1223] s0 s0 := FL.rf
  show xe none 56 0 [(0, .ref 177), (1, vi a)] [] s0 0 0 _
  refine x_A k56_0 (fun _ => rfl) ?_
  refine x_A k56_1 (fun _ => rfl) ?_
  refine x_callV k56_2 (y := 54) (n := 1) (w0 := 0) (w1 := 1) (as := [vi a]) (rest := []) (by decide +kernel) (q := 177) (nq := 7) (kq := 7) ⟨by decide, rfl⟩ rfl rfl rfl rfl (xe_mono (C_X6_isSign_177 s0 hG0 a (by first | exact x_rb b_a rfl rfl | exact ⟨by omega, by omega⟩)) ?_)
  rintro s2 v ⟨-, t_s2, z1, rfl, g_z1⟩
  rw [t_s2.nil]
  show xe none 56 5 [(0, .ref 177), (1, vi a)] [vi z1] s0 0 0 _
  refine x_if_ne k56_5 (t := 17) rfl (by first | exact x_rbe e_z1 g_z1 rfl rfl | exact x_rb g_z1 rfl rfl | exact ⟨by omega, by omega⟩) (fun c3 => ?_) (fun c3 => ?_)
  · skip
    refine x_A k56_17 (fun _ => rfl) ?_
    refine x_getI k56_18 (f := 5) rfl (q := 177) (n := 7) (kd := 7) ⟨by decide, rfl⟩ (by decide) rfl ?_
    refine x_top (fun z4 e_z4 => ?_)
    have g_z4 : (0 : Int) ≤ s0 177 5 ∧ s0 177 5 ≤ 5 := hG0 177 5
    refine x_if_ne k56_21 (t := 28) rfl (by first | exact x_rbe e_z4 g_z4 rfl rfl | exact x_rb g_z4 rfl rfl | exact ⟨by omega, by omega⟩) (fun c5 => ?_) (fun c5 => ?_)
    · skip
      exact x_vret k56_28 rfl ⟨hG0, f0, rfl, by omega⟩
    · skip
      refine x_A k56_24 (fun _ => rfl) ?_
      refine x_callV k56_25 (y := 51) (n := 0) (w0 := 0) (w1 := 0) (as := []) (rest := []) (by decide +kernel) (q := 177) (nq := 7) (kq := 7) ⟨by decide, rfl⟩ rfl rfl rfl rfl (xe_mono (C_X6_advance_177 s0 hG0) ?_)
      rintro s7 v ⟨hG_s7, t_s7, rfl⟩
      have f_s7 : FL [1219, 1220, 1221, 1222, 1223] s0 s7 := f0.tr t_s7 (by decide +kernel)
      have q8 : s7 177 5 = z4 := (t_s7 177 5 (show 1222 ∉ [1219, 1220, 1221] from by decide +kernel)).trans e_z4.symm
      show xe none 56 28 [(0, .ref 177), (1, vi a)] [] s7 0 0 _
      exact x_vret k56_28 rfl ⟨hG_s7, f_s7, rfl, by omega⟩
  · skip
    refine x_A k56_8 (fun _ => rfl) ?_
    refine x_A k56_9 (fun _ => rfl) ?_
    refine x_A k56_10 (fun _ => rfl) ?_
    refine x_getI k56_11 (f := 3) rfl (q := 177) (n := 7) (kd := 7) ⟨by decide, rfl⟩ (by decide) rfl ?_
    refine x_top (fun z9 e_z9 => ?_)
    have g_z9 : (0 : Int) ≤ s0 177 3 ∧ s0 177 3 ≤ 160 := hG0 177 3
    refine x_callV k56_14 (y := 52) (n := 2) (w0 := 0) (w1 := 2) (as := [vi 1, vi z9]) (rest := []) (by decide +kernel) (q := 177) (nq := 7) (kq := 7) ⟨by decide, rfl⟩ rfl rfl rfl rfl (xe_mono (C_X6_fail_177 s0 hG0 1 ⟨by decide, by decide⟩ z9 (by first | exact x_rbe e_z9 g_z9 rfl rfl | exact x_rb g_z9 rfl rfl | exact ⟨by omega, by omega⟩)) ?_)
    rintro s11 v ⟨hG_s11, t_s11, rfl, xp_z10⟩
    have f_s11 : FL [1219, 1220, 1221, 1222, 1223] s0 s11 := f0.tr t_s11 (by decide +kernel)
    have q12 : s11 177 3 = z9 := (t_s11 177 3 (show 1220 ∉ [1222, 1223] from by decide +kernel)).trans e_z9.symm
    obtain ⟨z13, e_z13⟩ : ∃ z, z = s11 177 5 := ⟨_, rfl⟩
    have g_z13 : (0 : Int) ≤ s11 177 5 ∧ s11 177 5 ≤ 5 := hG_s11 177 5
    show xe none 56 17 [(0, .ref 177), (1, vi a)] [] s11 0 0 _
    refine x_A k56_17 (fun _ => rfl) ?_
    refine x_getI k56_18 (f := 5) rfl (q := 177) (n := 7) (kd := 7) ⟨by decide, rfl⟩ (by decide) rfl ?_
    rw [e_z13.symm]
    refine x_if_ne k56_21 (t := 28) rfl (by first | exact x_rbe e_z13 g_z13 rfl rfl | exact x_rb g_z13 rfl rfl | exact ⟨by omega, by omega⟩) (fun c14 => ?_) (fun c14 => ?_)
    · skip
      exact x_vret k56_28 rfl ⟨hG_s11, f_s11, rfl, by omega⟩
    · skip
      refine x_A k56_24 (fun _ => rfl) ?_
      refine x_callV k56_25 (y := 51) (n := 0) (w0 := 0) (w1 := 0) (as := []) (rest := []) (by decide +kernel) (q := 177) (nq := 7) (kq := 7) ⟨by decide, rfl⟩ rfl rfl rfl rfl (xe_mono (C_X6_advance_177 s11 hG_s11) ?_)
      rintro s16 v ⟨hG_s16, t_s16, rfl⟩
      have f_s16 : FL [1219, 1220, 1221, 1222, 1223] s0 s16 := f_s11.tr t_s16 (by decide +kernel)
      have q17 : s16 177 5 = z13 := (t_s16 177 5 (show 1222 ∉ [1219, 1220, 1221] from by decide +kernel)).trans e_z13.symm
      show xe none 56 28 [(0, .ref 177), (1, vi a)] [] s16 0 0 _
      exact x_vret k56_28 rfl ⟨hG_s16, f_s16, rfl, by omega⟩
theorem L_C_X6_takeNumber_177_57 (s0 : xS) (a : Int) (b_a : (-2147483648) ≤ a ∧ a ≤ 2147483647) (b : Int) (b_b : (-2147483648) ≤ b ∧ b ≤ 2147483647) (d : Int) (b_d : (-2147483648) ≤ d ∧ d ≤ 2147483647)  : ∀ (n : Nat) (s : xS) (x1 : Int) (x2 : Int) (x3 : Int) (x4 : Int) (x5 : Int) (x1000 : Int) (hG : GI s) (f : FL [1219, 1220, 1221, 1222, 1223] s0 s) (b_x1 : (-2147483648) ≤ x1 ∧ x1 ≤ 2147483647) (b_x2 : (-2147483648) ≤ x2 ∧ x2 ≤ 2147483647) (b_x3 : (-2147483648) ≤ x3 ∧ x3 ≤ 2147483647) (b_x4 : (-2147483648) ≤ x4 ∧ x4 ≤ 2147483647) (b_x5 : 0 ≤ x5 ∧ x5 ≤ 160) (b_x1000 : 0 ≤ x1000 ∧ x1000 ≤ 0) (r_1000_5 : x1000 ≤ x5 + 0) (w_0 : x1 = a) (w_1 : x2 = b) (w_2 : x1000 = 0) (w_3 : s0 177 5 = 0) (e_x1000 : x1000 = s 177 5)  (hm : (160 - x5) < (n : Int)), xe none 57 57 [(0, .ref 177), (1, vi x1), (2, vi x2), (3, vi x3), (4, vi x4), (5, vi x5)] [] s 0 0 (fun s' v => GI s' ∧ FL [1219, 1220, 1221, 1222, 1223] s0 s' ∧ ∃ z, v = some (vi z) ∧ ((-2147483648) ≤ z ∧ z ≤ 2147483647) ∧ ((s' 177 5 = 0 → s0 177 5 = 0 ∧ a ≤ z ∧ z ≤ b) ∧ (z = -1 ∨ (a ≤ z ∧ z ≤ b)))) := by
  intro n
  induction n with
  | zero => intro s x1 x2 x3 x4 x5 x1000 hG f b_x1 b_x2 b_x3 b_x4 b_x5 b_x1000 r_1000_5 w_0 w_1 w_2 w_3 e_x1000  hm; exfalso; omega
  | succ n ih =>
    intro s x1 x2 x3 x4 x5 x1000 hG f b_x1 b_x2 b_x3 b_x4 b_x5 b_x1000 r_1000_5 w_0 w_1 w_2 w_3 e_x1000  hm
    refine x_A k57_57 (fun _ => rfl) ?_
    refine x_A k57_59 (fun _ => rfl) ?_
    refine x_getI k57_60 (f := 4) rfl (q := 177) (n := 7) (kd := 7) ⟨by decide, rfl⟩ (by decide) rfl ?_
    refine x_top (fun z254 e_z254 => ?_)
    have g_z254 : (0 : Int) ≤ s 177 4 ∧ s 177 4 ≤ 160 := hG 177 4
    refine x_ic_ge k57_63 (t := 89) rfl (by first | exact x_rb b_x5 rfl rfl | exact ⟨by omega, by omega⟩) (by first | exact x_rbe e_z254 g_z254 rfl rfl | exact x_rb g_z254 rfl rfl | exact ⟨by omega, by omega⟩) (fun c255 => ?_) (fun c255 => ?_)
    · skip
      refine x_A k57_89 (fun _ => rfl) ?_
      refine x_A k57_91 (fun _ => rfl) ?_
      refine x_A k57_92 (fun _ => rfl) ?_
      refine x_callS k57_93 (y := 121) (n := 3) (w0 := 0) (w1 := 3) (as := [vi x4, vi x1, vi x2]) (rest := []) (by decide +kernel) rfl rfl rfl rfl (xe_mono (C_X10_isWithin s hG x4 (by first | exact x_rb b_x4 rfl rfl | exact ⟨by omega, by omega⟩) x1 (by first | exact x_rb b_x1 rfl rfl | exact ⟨by omega, by omega⟩) x2 (by first | exact x_rb b_x2 rfl rfl | exact ⟨by omega, by omega⟩)) ?_)
      rintro s257 v ⟨h_s257, z256, rfl, hz_z256⟩
      rw [h_s257]
      rcases hz_z256 with ⟨c_z256, e_z256⟩ | ⟨c_z256, e_z256⟩
      · rw [e_z256]
        show xe none 57 96 [(0, .ref 177), (1, vi x1), (2, vi x2), (3, vi x3), (4, vi x4), (5, vi x5)] [vi 1] s 0 0 _
        refine x_if_ne k57_96 (t := 108) rfl ⟨by decide, by decide⟩ (fun c258 => ?_) (fun c258 => by exfalso; omega)
        refine x_A k57_108 (fun _ => rfl) ?_
        refine x_getI k57_109 (f := 5) rfl (q := 177) (n := 7) (kd := 7) ⟨by decide, rfl⟩ (by decide) rfl ?_
        rw [e_x1000.symm]
        refine x_if_eq k57_112 (t := 117) rfl (by first | exact x_rb b_x1000 rfl rfl | exact ⟨by omega, by omega⟩) (fun c259 => ?_) (fun c259 => by exfalso; omega)
        refine x_A k57_117 (fun _ => rfl) ?_
        refine x_callV k57_118 (y := 51) (n := 0) (w0 := 0) (w1 := 0) (as := []) (rest := []) (by decide +kernel) (q := 177) (nq := 7) (kq := 7) ⟨by decide, rfl⟩ rfl rfl rfl rfl (xe_mono (C_X6_advance_177 s hG) ?_)
        rintro s261 v ⟨hG_s261, t_s261, rfl⟩
        have f_s261 : FL [1219, 1220, 1221, 1222, 1223] s0 s261 := f.tr t_s261 (by decide +kernel)
        have q262 : s261 177 5 = x1000 := (t_s261 177 5 (show 1222 ∉ [1219, 1220, 1221] from by decide +kernel)).trans e_x1000.symm
        show xe none 57 121 [(0, .ref 177), (1, vi x1), (2, vi x2), (3, vi x3), (4, vi x4), (5, vi x5)] [] s261 0 0 _
        refine x_A k57_121 (fun _ => rfl) ?_
        exact x_iret k57_123 rfl ⟨hG_s261, f_s261, x4, rfl, (by first | exact x_rb b_x4 rfl rfl | exact ⟨by omega, by omega⟩), by omega⟩
      · rw [e_z256]
        show xe none 57 96 [(0, .ref 177), (1, vi x1), (2, vi x2), (3, vi x3), (4, vi x4), (5, vi x5)] [vi 0] s 0 0 _
        refine x_if_ne k57_96 (t := 108) rfl ⟨by decide, by decide⟩ (fun c263 => by exfalso; omega) (fun c263 => ?_)
        refine x_A k57_99 (fun _ => rfl) ?_
        refine x_A k57_100 (fun _ => rfl) ?_
        refine x_A k57_101 (fun _ => rfl) ?_
        refine x_getI k57_102 (f := 3) rfl (q := 177) (n := 7) (kd := 7) ⟨by decide, rfl⟩ (by decide) rfl ?_
        refine x_top (fun z264 e_z264 => ?_)
        have g_z264 : (0 : Int) ≤ s 177 3 ∧ s 177 3 ≤ 160 := hG 177 3
        refine x_callV k57_105 (y := 52) (n := 2) (w0 := 0) (w1 := 2) (as := [vi 2, vi z264]) (rest := []) (by decide +kernel) (q := 177) (nq := 7) (kq := 7) ⟨by decide, rfl⟩ rfl rfl rfl rfl (xe_mono (C_X6_fail_177 s hG 2 ⟨by decide, by decide⟩ z264 (by first | exact x_rbe e_z264 g_z264 rfl rfl | exact x_rb g_z264 rfl rfl | exact ⟨by omega, by omega⟩)) ?_)
        rintro s266 v ⟨hG_s266, t_s266, rfl, xp_z265⟩
        have f_s266 : FL [1219, 1220, 1221, 1222, 1223] s0 s266 := f.tr t_s266 (by decide +kernel)
        have q267 : s266 177 4 = z254 := (t_s266 177 4 (show 1221 ∉ [1222, 1223] from by decide +kernel)).trans e_z254.symm
        have q268 : s266 177 3 = z264 := (t_s266 177 3 (show 1220 ∉ [1222, 1223] from by decide +kernel)).trans e_z264.symm
        obtain ⟨z269, e_z269⟩ : ∃ z, z = s266 177 5 := ⟨_, rfl⟩
        have g_z269 : (0 : Int) ≤ s266 177 5 ∧ s266 177 5 ≤ 5 := hG_s266 177 5
        show xe none 57 108 [(0, .ref 177), (1, vi x1), (2, vi x2), (3, vi x3), (4, vi x4), (5, vi x5)] [] s266 0 0 _
        refine x_A k57_108 (fun _ => rfl) ?_
        refine x_getI k57_109 (f := 5) rfl (q := 177) (n := 7) (kd := 7) ⟨by decide, rfl⟩ (by decide) rfl ?_
        rw [e_z269.symm]
        refine x_if_eq k57_112 (t := 117) rfl (by first | exact x_rbe e_z269 g_z269 rfl rfl | exact x_rb g_z269 rfl rfl | exact ⟨by omega, by omega⟩) (fun c270 => ?_) (fun c270 => ?_)
        · skip
          refine x_A k57_117 (fun _ => rfl) ?_
          refine x_callV k57_118 (y := 51) (n := 0) (w0 := 0) (w1 := 0) (as := []) (rest := []) (by decide +kernel) (q := 177) (nq := 7) (kq := 7) ⟨by decide, rfl⟩ rfl rfl rfl rfl (xe_mono (C_X6_advance_177 s266 hG_s266) ?_)
          rintro s272 v ⟨hG_s272, t_s272, rfl⟩
          have f_s272 : FL [1219, 1220, 1221, 1222, 1223] s0 s272 := f_s266.tr t_s272 (by decide +kernel)
          have q273 : s272 177 5 = z269 := (t_s272 177 5 (show 1222 ∉ [1219, 1220, 1221] from by decide +kernel)).trans e_z269.symm
          show xe none 57 121 [(0, .ref 177), (1, vi x1), (2, vi x2), (3, vi x3), (4, vi x4), (5, vi x5)] [] s272 0 0 _
          refine x_A k57_121 (fun _ => rfl) ?_
          exact x_iret k57_123 rfl ⟨hG_s272, f_s272, x4, rfl, (by first | exact x_rb b_x4 rfl rfl | exact ⟨by omega, by omega⟩), by omega⟩
        · skip
          refine x_A k57_115 (fun _ => rfl) ?_
          exact x_iret k57_116 rfl ⟨hG_s266, f_s266, (-1), rfl, ⟨by decide, by decide⟩, by omega⟩
    · skip
      refine x_bipush k57_66 (by decide +kernel) ?_
      refine x_A k57_68 (fun _ => rfl) ?_
      refine x_imul k57_70 ?_
      refine x_topW (fun z274 g_z274 => ?_)
      unfold in32 at g_z274
      refine x_A k57_71 (fun _ => rfl) ?_
      refine x_A k57_72 (fun _ => rfl) ?_
      refine x_callV k57_74 (y := 49) (n := 1) (w0 := 1) (w1 := 1) (as := [vi x5]) (rest := [vi z274]) (by decide +kernel) (q := 177) (nq := 7) (kq := 7) ⟨by decide, rfl⟩ rfl rfl rfl rfl (xe_mono (C_X6_byteAt_177 s hG x5 (by first | exact x_rb b_x5 rfl rfl | exact ⟨by omega, by omega⟩)) ?_)
      rintro s276 v ⟨h_s276, z275, rfl, g_z275⟩
      rw [h_s276]
      show xe none 57 77 [(0, .ref 177), (1, vi x1), (2, vi x2), (3, vi x3), (4, vi x4), (5, vi x5)] [vi z275, vi z274] s 0 0 _
      refine x_iadd k57_77 ?_
      refine x_topW (fun z277 g_z277 => ?_)
      unfold in32 at g_z277
      refine x_bipush k57_78 (by decide +kernel) ?_
      refine x_isub k57_80 ?_
      refine x_topW (fun z278 g_z278 => ?_)
      unfold in32 at g_z278
      refine x_istore k57_81 (ls' := [(4, vi z278), (0, .ref 177), (1, vi x1), (2, vi x2), (3, vi x3), (5, vi x5)]) (by decide) rfl ?_
      refine x_iinc k57_83 (ls' := [(5, vi (x5 + 1)), (4, vi z278), (0, .ref 177), (1, vi x1), (2, vi x2), (3, vi x3)]) rfl (by decide) rfl ?_
      refine x_goto k57_86 (t := 57) rfl ?_
      refine x_ls (l := [(0, .ref 177), (1, vi x1), (2, vi x2), (3, vi x3), (4, vi z278), (5, vi (x5 + 1))]) (show ([0, 1, 2, 3, 4, 5] : List Nat).Nodup from by decide +kernel) ⟨rfl, rfl, rfl, rfl, rfl, rfl, trivial⟩ ?_
      exact ih s x1 x2 x3 z278 (x5 + 1) x1000 hG f (by first | exact x_rb b_x1 rfl rfl | exact ⟨by omega, by omega⟩) (by first | exact x_rb b_x2 rfl rfl | exact ⟨by omega, by omega⟩) (by first | exact x_rb b_x3 rfl rfl | exact ⟨by omega, by omega⟩) (by first | exact x_rbe e_z278 g_z278 rfl rfl | exact x_rb g_z278 rfl rfl | exact ⟨by omega, by omega⟩) ⟨by omega, by omega⟩ (by first | exact x_rb b_x1000 rfl rfl | exact ⟨by omega, by omega⟩) (by omega) (by omega) (by omega) (by omega) (by omega) (e_x1000.symm).symm  (by omega)
theorem C_X6_takeNumber_177 (s0 : xS) (hG0 : GI s0) (a : Int) (b_a : (-2147483648) ≤ a ∧ a ≤ 2147483647) (b : Int) (b_b : (-2147483648) ≤ b ∧ b ≤ 2147483647) (d : Int) (b_d : (-2147483648) ≤ d ∧ d ≤ 2147483647) : xe none 57 0 (lv_args 0 [.ref 177, vi a, vi b, vi d]) [] s0 0 0 (fun s' v => GI s' ∧ FL [1219, 1220, 1221, 1222, 1223] s0 s' ∧ ∃ z, v = some (vi z) ∧ ((-2147483648) ≤ z ∧ z ≤ 2147483647) ∧ ((s' 177 5 = 0 → s0 177 5 = 0 ∧ a ≤ z ∧ z ≤ b) ∧ (z = -1 ∨ (a ≤ z ∧ z ≤ b)))) := by
  have f0 : FL [1219, 1220, 1221, 1222, 1223] s0 s0 := FL.rf
  show xe none 57 0 [(0, .ref 177), (1, vi a), (2, vi b), (3, vi d)] [] s0 0 0 _
  refine x_A k57_0 (fun _ => rfl) ?_
  refine x_getI k57_1 (f := 2) rfl (q := 177) (n := 7) (kd := 7) ⟨by decide, rfl⟩ (by decide) rfl ?_
  refine x_top (fun z279 e_z279 => ?_)
  have g_z279 : (0 : Int) ≤ s0 177 2 ∧ s0 177 2 ≤ 3 := hG0 177 2
  refine x_A k57_4 (fun _ => rfl) ?_
  refine x_ic_eq k57_5 (t := 17) rfl (by first | exact x_rbe e_z279 g_z279 rfl rfl | exact x_rb g_z279 rfl rfl | exact ⟨by omega, by omega⟩) ⟨by decide, by decide⟩ (fun c280 => ?_) (fun c280 => ?_)
  · skip
    refine x_A k57_17 (fun _ => rfl) ?_
    refine x_getI k57_18 (f := 4) rfl (q := 177) (n := 7) (kd := 7) ⟨by decide, rfl⟩ (by decide) rfl ?_
    refine x_top (fun z281 e_z281 => ?_)
    have g_z281 : (0 : Int) ≤ s0 177 4 ∧ s0 177 4 ≤ 160 := hG0 177 4
    refine x_A k57_21 (fun _ => rfl) ?_
    refine x_getI k57_22 (f := 3) rfl (q := 177) (n := 7) (kd := 7) ⟨by decide, rfl⟩ (by decide) rfl ?_
    refine x_top (fun z282 e_z282 => ?_)
    have g_z282 : (0 : Int) ≤ s0 177 3 ∧ s0 177 3 ≤ 160 := hG0 177 3
    refine x_isub k57_25 ?_
    refine x_top (fun z283 e_z283 => ?_)
    refine x_A k57_26 (fun _ => rfl) ?_
    refine x_ic_le k57_27 (t := 39) rfl (by first | exact x_rbe e_z283 g_z283 rfl rfl | exact x_rb g_z283 rfl rfl | exact ⟨by omega, by omega⟩) (by first | exact x_rb b_d rfl rfl | exact ⟨by omega, by omega⟩) (fun c284 => ?_) (fun c284 => ?_)
    · skip
      refine x_A k57_39 (fun _ => rfl) ?_
      refine x_getI k57_40 (f := 5) rfl (q := 177) (n := 7) (kd := 7) ⟨by decide, rfl⟩ (by decide) rfl ?_
      refine x_top (fun z285 e_z285 => ?_)
      have g_z285 : (0 : Int) ≤ s0 177 5 ∧ s0 177 5 ≤ 5 := hG0 177 5
      refine x_if_eq k57_43 (t := 48) rfl (by first | exact x_rbe e_z285 g_z285 rfl rfl | exact x_rb g_z285 rfl rfl | exact ⟨by omega, by omega⟩) (fun c286 => ?_) (fun c286 => ?_)
      · skip
        refine x_A k57_48 (fun _ => rfl) ?_
        refine x_istore k57_49 (ls' := [(4, vi 0), (0, .ref 177), (1, vi a), (2, vi b), (3, vi d)]) (by decide) rfl ?_
        refine x_A k57_51 (fun _ => rfl) ?_
        refine x_getI k57_52 (f := 3) rfl (q := 177) (n := 7) (kd := 7) ⟨by decide, rfl⟩ (by decide) rfl ?_
        rw [e_z282.symm]
        refine x_istore k57_55 (ls' := [(5, vi z282), (4, vi 0), (0, .ref 177), (1, vi a), (2, vi b), (3, vi d)]) (by decide) rfl ?_
        refine x_ls (l := [(0, .ref 177), (1, vi a), (2, vi b), (3, vi d), (4, vi 0), (5, vi z282)]) (show ([0, 1, 2, 3, 4, 5] : List Nat).Nodup from by decide +kernel) ⟨rfl, rfl, rfl, rfl, rfl, rfl, trivial⟩ ?_
        exact L_C_X6_takeNumber_177_57 s0 a b_a b b_b d b_d  (((160 - z282) + 1 : Int)).toNat s0 a b d 0 z282 z285 hG0 f0 (by first | exact x_rb b_a rfl rfl | exact ⟨by omega, by omega⟩) (by first | exact x_rb b_b rfl rfl | exact ⟨by omega, by omega⟩) (by first | exact x_rb b_d rfl rfl | exact ⟨by omega, by omega⟩) ⟨by decide, by decide⟩ (by first | exact x_rbe e_z282 g_z282 rfl rfl | exact x_rb g_z282 rfl rfl | exact ⟨by omega, by omega⟩) (by first | exact x_rbe e_z285 g_z285 rfl rfl | exact x_rb g_z285 rfl rfl | exact ⟨by omega, by omega⟩) (by omega) (by omega) (by omega) (by omega) (by omega) (e_z285.symm).symm  (by omega)
      · skip
        refine x_A k57_46 (fun _ => rfl) ?_
        exact x_iret k57_47 rfl ⟨hG0, f0, (-1), rfl, ⟨by decide, by decide⟩, by omega⟩
    · skip
      refine x_A k57_30 (fun _ => rfl) ?_
      refine x_A k57_31 (fun _ => rfl) ?_
      refine x_A k57_32 (fun _ => rfl) ?_
      refine x_getI k57_33 (f := 3) rfl (q := 177) (n := 7) (kd := 7) ⟨by decide, rfl⟩ (by decide) rfl ?_
      rw [e_z282.symm]
      refine x_callV k57_36 (y := 52) (n := 2) (w0 := 0) (w1 := 2) (as := [vi 2, vi z282]) (rest := []) (by decide +kernel) (q := 177) (nq := 7) (kq := 7) ⟨by decide, rfl⟩ rfl rfl rfl rfl (xe_mono (C_X6_fail_177 s0 hG0 2 ⟨by decide, by decide⟩ z282 (by first | exact x_rbe e_z282 g_z282 rfl rfl | exact x_rb g_z282 rfl rfl | exact ⟨by omega, by omega⟩)) ?_)
      rintro s288 v ⟨hG_s288, t_s288, rfl, xp_z287⟩
      have f_s288 : FL [1219, 1220, 1221, 1222, 1223] s0 s288 := f0.tr t_s288 (by decide +kernel)
      have q289 : s288 177 2 = z279 := (t_s288 177 2 (show 1219 ∉ [1222, 1223] from by decide +kernel)).trans e_z279.symm
      have q290 : s288 177 4 = z281 := (t_s288 177 4 (show 1221 ∉ [1222, 1223] from by decide +kernel)).trans e_z281.symm
      have q291 : s288 177 3 = z282 := (t_s288 177 3 (show 1220 ∉ [1222, 1223] from by decide +kernel)).trans e_z282.symm
      obtain ⟨z292, e_z292⟩ : ∃ z, z = s288 177 5 := ⟨_, rfl⟩
      have g_z292 : (0 : Int) ≤ s288 177 5 ∧ s288 177 5 ≤ 5 := hG_s288 177 5
      show xe none 57 39 [(0, .ref 177), (1, vi a), (2, vi b), (3, vi d)] [] s288 0 0 _
      refine x_A k57_39 (fun _ => rfl) ?_
      refine x_getI k57_40 (f := 5) rfl (q := 177) (n := 7) (kd := 7) ⟨by decide, rfl⟩ (by decide) rfl ?_
      rw [e_z292.symm]
      refine x_if_eq k57_43 (t := 48) rfl (by first | exact x_rbe e_z292 g_z292 rfl rfl | exact x_rb g_z292 rfl rfl | exact ⟨by omega, by omega⟩) (fun c293 => ?_) (fun c293 => ?_)
      · skip
        refine x_A k57_48 (fun _ => rfl) ?_
        refine x_istore k57_49 (ls' := [(4, vi 0), (0, .ref 177), (1, vi a), (2, vi b), (3, vi d)]) (by decide) rfl ?_
        refine x_A k57_51 (fun _ => rfl) ?_
        refine x_getI k57_52 (f := 3) rfl (q := 177) (n := 7) (kd := 7) ⟨by decide, rfl⟩ (by decide) rfl ?_
        rw [q291]
        refine x_istore k57_55 (ls' := [(5, vi z282), (4, vi 0), (0, .ref 177), (1, vi a), (2, vi b), (3, vi d)]) (by decide) rfl ?_
        refine x_ls (l := [(0, .ref 177), (1, vi a), (2, vi b), (3, vi d), (4, vi 0), (5, vi z282)]) (show ([0, 1, 2, 3, 4, 5] : List Nat).Nodup from by decide +kernel) ⟨rfl, rfl, rfl, rfl, rfl, rfl, trivial⟩ ?_
        exact L_C_X6_takeNumber_177_57 s0 a b_a b b_b d b_d  (((160 - z282) + 1 : Int)).toNat s288 a b d 0 z282 z292 hG_s288 f_s288 (by first | exact x_rb b_a rfl rfl | exact ⟨by omega, by omega⟩) (by first | exact x_rb b_b rfl rfl | exact ⟨by omega, by omega⟩) (by first | exact x_rb b_d rfl rfl | exact ⟨by omega, by omega⟩) ⟨by decide, by decide⟩ (by first | exact x_rbe e_z282 g_z282 rfl rfl | exact x_rb g_z282 rfl rfl | exact ⟨by omega, by omega⟩) (by first | exact x_rbe e_z292 g_z292 rfl rfl | exact x_rb g_z292 rfl rfl | exact ⟨by omega, by omega⟩) (by omega) (by omega) (by omega) (by omega) (by omega) (e_z292.symm).symm  (by omega)
      · skip
        refine x_A k57_46 (fun _ => rfl) ?_
        exact x_iret k57_47 rfl ⟨hG_s288, f_s288, (-1), rfl, ⟨by decide, by decide⟩, by omega⟩
  · skip
    refine x_A k57_8 (fun _ => rfl) ?_
    refine x_A k57_9 (fun _ => rfl) ?_
    refine x_A k57_10 (fun _ => rfl) ?_
    refine x_getI k57_11 (f := 3) rfl (q := 177) (n := 7) (kd := 7) ⟨by decide, rfl⟩ (by decide) rfl ?_
    refine x_top (fun z294 e_z294 => ?_)
    have g_z294 : (0 : Int) ≤ s0 177 3 ∧ s0 177 3 ≤ 160 := hG0 177 3
    refine x_callV k57_14 (y := 52) (n := 2) (w0 := 0) (w1 := 2) (as := [vi 1, vi z294]) (rest := []) (by decide +kernel) (q := 177) (nq := 7) (kq := 7) ⟨by decide, rfl⟩ rfl rfl rfl rfl (xe_mono (C_X6_fail_177 s0 hG0 1 ⟨by decide, by decide⟩ z294 (by first | exact x_rbe e_z294 g_z294 rfl rfl | exact x_rb g_z294 rfl rfl | exact ⟨by omega, by omega⟩)) ?_)
    rintro s296 v ⟨hG_s296, t_s296, rfl, xp_z295⟩
    have f_s296 : FL [1219, 1220, 1221, 1222, 1223] s0 s296 := f0.tr t_s296 (by decide +kernel)
    have q297 : s296 177 2 = z279 := (t_s296 177 2 (show 1219 ∉ [1222, 1223] from by decide +kernel)).trans e_z279.symm
    have q298 : s296 177 3 = z294 := (t_s296 177 3 (show 1220 ∉ [1222, 1223] from by decide +kernel)).trans e_z294.symm
    obtain ⟨z299, e_z299⟩ : ∃ z, z = s296 177 5 := ⟨_, rfl⟩
    have g_z299 : (0 : Int) ≤ s296 177 5 ∧ s296 177 5 ≤ 5 := hG_s296 177 5
    show xe none 57 17 [(0, .ref 177), (1, vi a), (2, vi b), (3, vi d)] [] s296 0 0 _
    refine x_A k57_17 (fun _ => rfl) ?_
    refine x_getI k57_18 (f := 4) rfl (q := 177) (n := 7) (kd := 7) ⟨by decide, rfl⟩ (by decide) rfl ?_
    refine x_top (fun z300 e_z300 => ?_)
    have g_z300 : (0 : Int) ≤ s296 177 4 ∧ s296 177 4 ≤ 160 := hG_s296 177 4
    refine x_A k57_21 (fun _ => rfl) ?_
    refine x_getI k57_22 (f := 3) rfl (q := 177) (n := 7) (kd := 7) ⟨by decide, rfl⟩ (by decide) rfl ?_
    rw [q298]
    refine x_isub k57_25 ?_
    refine x_top (fun z301 e_z301 => ?_)
    refine x_A k57_26 (fun _ => rfl) ?_
    refine x_ic_le k57_27 (t := 39) rfl (by first | exact x_rbe e_z301 g_z301 rfl rfl | exact x_rb g_z301 rfl rfl | exact ⟨by omega, by omega⟩) (by first | exact x_rb b_d rfl rfl | exact ⟨by omega, by omega⟩) (fun c302 => ?_) (fun c302 => ?_)
    · skip
      refine x_A k57_39 (fun _ => rfl) ?_
      refine x_getI k57_40 (f := 5) rfl (q := 177) (n := 7) (kd := 7) ⟨by decide, rfl⟩ (by decide) rfl ?_
      rw [e_z299.symm]
      refine x_if_eq k57_43 (t := 48) rfl (by first | exact x_rbe e_z299 g_z299 rfl rfl | exact x_rb g_z299 rfl rfl | exact ⟨by omega, by omega⟩) (fun c303 => ?_) (fun c303 => ?_)
      · skip
        refine x_A k57_48 (fun _ => rfl) ?_
        refine x_istore k57_49 (ls' := [(4, vi 0), (0, .ref 177), (1, vi a), (2, vi b), (3, vi d)]) (by decide) rfl ?_
        refine x_A k57_51 (fun _ => rfl) ?_
        refine x_getI k57_52 (f := 3) rfl (q := 177) (n := 7) (kd := 7) ⟨by decide, rfl⟩ (by decide) rfl ?_
        rw [q298]
        refine x_istore k57_55 (ls' := [(5, vi z294), (4, vi 0), (0, .ref 177), (1, vi a), (2, vi b), (3, vi d)]) (by decide) rfl ?_
        refine x_ls (l := [(0, .ref 177), (1, vi a), (2, vi b), (3, vi d), (4, vi 0), (5, vi z294)]) (show ([0, 1, 2, 3, 4, 5] : List Nat).Nodup from by decide +kernel) ⟨rfl, rfl, rfl, rfl, rfl, rfl, trivial⟩ ?_
        exact L_C_X6_takeNumber_177_57 s0 a b_a b b_b d b_d  (((160 - z294) + 1 : Int)).toNat s296 a b d 0 z294 z299 hG_s296 f_s296 (by first | exact x_rb b_a rfl rfl | exact ⟨by omega, by omega⟩) (by first | exact x_rb b_b rfl rfl | exact ⟨by omega, by omega⟩) (by first | exact x_rb b_d rfl rfl | exact ⟨by omega, by omega⟩) ⟨by decide, by decide⟩ (by first | exact x_rbe e_z294 g_z294 rfl rfl | exact x_rb g_z294 rfl rfl | exact ⟨by omega, by omega⟩) (by first | exact x_rbe e_z299 g_z299 rfl rfl | exact x_rb g_z299 rfl rfl | exact ⟨by omega, by omega⟩) (by omega) (by omega) (by omega) (by omega) (by omega) (e_z299.symm).symm  (by omega)
      · skip
        refine x_A k57_46 (fun _ => rfl) ?_
        exact x_iret k57_47 rfl ⟨hG_s296, f_s296, (-1), rfl, ⟨by decide, by decide⟩, by omega⟩
    · skip
      refine x_A k57_30 (fun _ => rfl) ?_
      refine x_A k57_31 (fun _ => rfl) ?_
      refine x_A k57_32 (fun _ => rfl) ?_
      refine x_getI k57_33 (f := 3) rfl (q := 177) (n := 7) (kd := 7) ⟨by decide, rfl⟩ (by decide) rfl ?_
      rw [q298]
      refine x_callV k57_36 (y := 52) (n := 2) (w0 := 0) (w1 := 2) (as := [vi 2, vi z294]) (rest := []) (by decide +kernel) (q := 177) (nq := 7) (kq := 7) ⟨by decide, rfl⟩ rfl rfl rfl rfl (xe_mono (C_X6_fail_177 s296 hG_s296 2 ⟨by decide, by decide⟩ z294 (by first | exact x_rbe e_z294 g_z294 rfl rfl | exact x_rb g_z294 rfl rfl | exact ⟨by omega, by omega⟩)) ?_)
      rintro s305 v ⟨hG_s305, t_s305, rfl, xp_z304⟩
      have f_s305 : FL [1219, 1220, 1221, 1222, 1223] s0 s305 := f_s296.tr t_s305 (by decide +kernel)
      have q306 : s305 177 2 = z279 := (t_s305 177 2 (show 1219 ∉ [1222, 1223] from by decide +kernel)).trans q297
      have q307 : s305 177 3 = z294 := (t_s305 177 3 (show 1220 ∉ [1222, 1223] from by decide +kernel)).trans q298
      have q308 : s305 177 4 = z300 := (t_s305 177 4 (show 1221 ∉ [1222, 1223] from by decide +kernel)).trans e_z300.symm
      obtain ⟨z309, e_z309⟩ : ∃ z, z = s305 177 5 := ⟨_, rfl⟩
      have g_z309 : (0 : Int) ≤ s305 177 5 ∧ s305 177 5 ≤ 5 := hG_s305 177 5
      show xe none 57 39 [(0, .ref 177), (1, vi a), (2, vi b), (3, vi d)] [] s305 0 0 _
      refine x_A k57_39 (fun _ => rfl) ?_
      refine x_getI k57_40 (f := 5) rfl (q := 177) (n := 7) (kd := 7) ⟨by decide, rfl⟩ (by decide) rfl ?_
      rw [e_z309.symm]
      refine x_if_eq k57_43 (t := 48) rfl (by first | exact x_rbe e_z309 g_z309 rfl rfl | exact x_rb g_z309 rfl rfl | exact ⟨by omega, by omega⟩) (fun c310 => ?_) (fun c310 => ?_)
      · skip
        refine x_A k57_48 (fun _ => rfl) ?_
        refine x_istore k57_49 (ls' := [(4, vi 0), (0, .ref 177), (1, vi a), (2, vi b), (3, vi d)]) (by decide) rfl ?_
        refine x_A k57_51 (fun _ => rfl) ?_
        refine x_getI k57_52 (f := 3) rfl (q := 177) (n := 7) (kd := 7) ⟨by decide, rfl⟩ (by decide) rfl ?_
        rw [q307]
        refine x_istore k57_55 (ls' := [(5, vi z294), (4, vi 0), (0, .ref 177), (1, vi a), (2, vi b), (3, vi d)]) (by decide) rfl ?_
        refine x_ls (l := [(0, .ref 177), (1, vi a), (2, vi b), (3, vi d), (4, vi 0), (5, vi z294)]) (show ([0, 1, 2, 3, 4, 5] : List Nat).Nodup from by decide +kernel) ⟨rfl, rfl, rfl, rfl, rfl, rfl, trivial⟩ ?_
        exact L_C_X6_takeNumber_177_57 s0 a b_a b b_b d b_d  (((160 - z294) + 1 : Int)).toNat s305 a b d 0 z294 z309 hG_s305 f_s305 (by first | exact x_rb b_a rfl rfl | exact ⟨by omega, by omega⟩) (by first | exact x_rb b_b rfl rfl | exact ⟨by omega, by omega⟩) (by first | exact x_rb b_d rfl rfl | exact ⟨by omega, by omega⟩) ⟨by decide, by decide⟩ (by first | exact x_rbe e_z294 g_z294 rfl rfl | exact x_rb g_z294 rfl rfl | exact ⟨by omega, by omega⟩) (by first | exact x_rbe e_z309 g_z309 rfl rfl | exact x_rb g_z309 rfl rfl | exact ⟨by omega, by omega⟩) (by omega) (by omega) (by omega) (by omega) (by omega) (e_z309.symm).symm  (by omega)
      · skip
        refine x_A k57_46 (fun _ => rfl) ?_
        exact x_iret k57_47 rfl ⟨hG_s305, f_s305, (-1), rfl, ⟨by decide, by decide⟩, by omega⟩
theorem C_X9_add_214 (s0 : xS) (hG0 : GI s0) (a : Int) (b_a : 0 ≤ a ∧ a ≤ 3) (b : Int) (b_b : 0 ≤ b ∧ b ≤ 99) (d : Int) (b_d : 0 ≤ d ∧ d ≤ 39) : xe none 88 0 (lv_args 0 [.ref 214, vi a, vi b, vi d]) [] s0 0 0 (fun s' v => GI s' ∧ FL [2244, 2304, 2368, 2432] s0 s' ∧ ∃ z, v = some (vi z) ∧ ((-1004) ≤ z ∧ z ≤ 127)) := by
  have f0 : FL [2244, 2304, 2368, 2432] s0 s0 := FL.rf
  show xe none 88 0 [(0, .ref 214), (1, vi a), (2, vi b), (3, vi d)] [] s0 0 0 _
  refine x_A k88_0 (fun _ => rfl) ?_
  refine x_getI k88_1 (f := 3) rfl (q := 214) (n := 4) (kd := 10) ⟨by decide, rfl⟩ (by decide) rfl ?_
  refine x_top (fun z1 e_z1 => ?_)
  have g_z1 : (0 : Int) ≤ s0 214 3 ∧ s0 214 3 ≤ 60 := hG0 214 3
  refine x_bipush k88_4 (by decide +kernel) ?_
  refine x_ic_lt k88_6 (t := 13) rfl (by first | exact x_rbe e_z1 g_z1 rfl rfl | exact x_rb g_z1 rfl rfl | exact ⟨by omega, by omega⟩) ⟨by decide, by decide⟩ (fun c2 => ?_) (fun c2 => ?_)
  · skip
    refine x_A k88_13 (fun _ => rfl) ?_
    refine x_getR k88_14 (f := 0) rfl (q := 214) (n := 4) (kd := 10) ⟨by decide, rfl⟩ (q2 := 215) (by decide) rfl ?_
    refine x_A k88_17 (fun _ => rfl) ?_
    refine x_getI k88_18 (f := 3) rfl (q := 214) (n := 4) (kd := 10) ⟨by decide, rfl⟩ (by decide) rfl ?_
    rw [e_z1.symm]
    refine x_A k88_21 (fun _ => rfl) ?_
    refine x_iast k88_22 (q := 215) (n := 60) ⟨by decide, rfl⟩ (by decide) (by first | exact x_rbel e_z1 g_z1 rfl rfl | exact x_rbl g_z1 rfl rfl | exact ⟨by omega, by omega⟩) ?_
    refine x_nh (fun s3 e_s3 => ?_)
    have hG_s3 : GI s3 := by rw [e_s3]; exact hG0.up (show 0 ≤ a ∧ a ≤ 3 from (by first | exact x_rb b_a rfl rfl | exact ⟨by omega, by omega⟩))
    have f_s3 : FL [2244, 2304, 2368, 2432] s0 s3 := by rw [e_s3]; exact f0.up (show 2304 ∈ [2244, 2304, 2368, 2432] from by decide +kernel)
    have q4 : s3 214 3 = z1 := by rw [e_s3, x_up_q (by decide)]; exact e_z1.symm
    have q5 : s3 215 z1.toNat = a := by rw [e_s3]; exact x_up_same
    refine x_A k88_23 (fun _ => rfl) ?_
    refine x_getR k88_24 (f := 1) rfl (q := 214) (n := 4) (kd := 10) ⟨by decide, rfl⟩ (q2 := 216) (by decide) rfl ?_
    refine x_A k88_27 (fun _ => rfl) ?_
    refine x_getI k88_28 (f := 3) rfl (q := 214) (n := 4) (kd := 10) ⟨by decide, rfl⟩ (by decide) rfl ?_
    rw [q4]
    refine x_A k88_31 (fun _ => rfl) ?_
    refine x_iast k88_32 (q := 216) (n := 60) ⟨by decide, rfl⟩ (by decide) (by first | exact x_rbel e_z1 g_z1 rfl rfl | exact x_rbl g_z1 rfl rfl | exact ⟨by omega, by omega⟩) ?_
    refine x_nh (fun s6 e_s6 => ?_)
    have hG_s6 : GI s6 := by rw [e_s6]; exact hG_s3.up (show 0 ≤ b ∧ b ≤ 99 from (by first | exact x_rb b_b rfl rfl | exact ⟨by omega, by omega⟩))
    have f_s6 : FL [2244, 2304, 2368, 2432] s0 s6 := by rw [e_s6]; exact f_s3.up (show 2368 ∈ [2244, 2304, 2368, 2432] from by decide +kernel)
    have q7 : s6 214 3 = z1 := by rw [e_s6, x_up_q (by decide)]; exact q4
    have q8 : s6 215 z1.toNat = a := by rw [e_s6, x_up_q (by first | decide | omega)]; exact q5
    have q9 : s6 216 z1.toNat = b := by rw [e_s6]; exact x_up_same
    refine x_A k88_33 (fun _ => rfl) ?_
    refine x_getR k88_34 (f := 2) rfl (q := 214) (n := 4) (kd := 10) ⟨by decide, rfl⟩ (q2 := 217) (by decide) rfl ?_
    refine x_A k88_37 (fun _ => rfl) ?_
    refine x_getI k88_38 (f := 3) rfl (q := 214) (n := 4) (kd := 10) ⟨by decide, rfl⟩ (by decide) rfl ?_
    rw [q7]
    refine x_A k88_41 (fun _ => rfl) ?_
    refine x_iast k88_42 (q := 217) (n := 60) ⟨by decide, rfl⟩ (by decide) (by first | exact x_rbel e_z1 g_z1 rfl rfl | exact x_rbl g_z1 rfl rfl | exact ⟨by omega, by omega⟩) ?_
    refine x_nh (fun s10 e_s10 => ?_)
    have hG_s10 : GI s10 := by rw [e_s10]; exact hG_s6.up (show 0 ≤ d ∧ d ≤ 39 from (by first | exact x_rb b_d rfl rfl | exact ⟨by omega, by omega⟩))
    have f_s10 : FL [2244, 2304, 2368, 2432] s0 s10 := by rw [e_s10]; exact f_s6.up (show 2432 ∈ [2244, 2304, 2368, 2432] from by decide +kernel)
    have q11 : s10 214 3 = z1 := by rw [e_s10, x_up_q (by decide)]; exact q7
    have q12 : s10 215 z1.toNat = a := by rw [e_s10, x_up_q (by first | decide | omega)]; exact q8
    have q13 : s10 216 z1.toNat = b := by rw [e_s10, x_up_q (by first | decide | omega)]; exact q9
    have q14 : s10 217 z1.toNat = d := by rw [e_s10]; exact x_up_same
    refine x_A k88_43 (fun _ => rfl) ?_
    refine x_A k88_44 (fun _ => rfl) ?_
    refine x_getI k88_45 (f := 3) rfl (q := 214) (n := 4) (kd := 10) ⟨by decide, rfl⟩ (by decide) rfl ?_
    rw [q11]
    refine x_A k88_48 (fun _ => rfl) ?_
    refine x_iadd k88_49 ?_
    refine x_top (fun z15 e_z15 => ?_)
    refine x_putI k88_50 (f := 3) rfl (q := 214) (n := 4) (kd := 10) ⟨by decide, rfl⟩ rfl rfl rfl ?_
    refine x_nh (fun s16 e_s16 => ?_)
    have hG_s16 : GI s16 := by rw [e_s16]; exact hG_s10.up (show 0 ≤ z15 ∧ z15 ≤ 60 from (by first | exact x_rbe e_z15 g_z15 rfl rfl | exact x_rb g_z15 rfl rfl | exact ⟨by omega, by omega⟩))
    have f_s16 : FL [2244, 2304, 2368, 2432] s0 s16 := by rw [e_s16]; exact f_s10.up (show 2244 ∈ [2244, 2304, 2368, 2432] from by decide +kernel)
    have q17 : s16 214 3 = z15 := by rw [e_s16]; exact x_up_same
    have q18 : s16 215 z1.toNat = a := by rw [e_s16, x_up_q (by first | decide | omega)]; exact q12
    have q19 : s16 216 z1.toNat = b := by rw [e_s16, x_up_q (by first | decide | omega)]; exact q13
    have q20 : s16 217 z1.toNat = d := by rw [e_s16, x_up_q (by first | decide | omega)]; exact q14
    refine x_A k88_53 (fun _ => rfl) ?_
    refine x_A k88_54 (fun _ => rfl) ?_
    refine x_A k88_55 (fun _ => rfl) ?_
    refine x_callV k88_56 (y := 89) (n := 2) (w0 := 0) (w1 := 2) (as := [vi a, vi b]) (rest := []) (by decide +kernel) (q := 214) (nq := 4) (kq := 10) ⟨by decide, rfl⟩ rfl rfl rfl rfl (xe_mono (C_X9_marksOf_214 s16 hG_s16 a (by first | exact x_rb b_a rfl rfl | exact ⟨by omega, by omega⟩) b (by first | exact x_rb b_b rfl rfl | exact ⟨by omega, by omega⟩)) ?_)
    rintro s22 v ⟨-, t_s22, z21, rfl, b_z21⟩
    rw [t_s22.nil]
    show xe none 88 59 [(0, .ref 214), (1, vi a), (2, vi b), (3, vi d)] [vj z21] s16 0 0 _
    refine x_callS k88_59 (y := 219) (n := 1) (w0 := 0) (w1 := 2) (as := [vj z21]) (rest := []) (by decide +kernel) rfl rfl rfl rfl (xe_mono (C_J13_bitCount_95d88 s16 hG_s16 z21 b_z21) ?_)
    rintro s24 v ⟨-, t_s24, z23, rfl, g_z23⟩
    rw [t_s24.nil]
    show xe none 88 62 [(0, .ref 214), (1, vi a), (2, vi b), (3, vi d)] [vi z23] s16 0 0 _
    exact x_iret k88_62 rfl ⟨hG_s16, f_s16, z23, rfl, (by first | exact x_rbe e_z23 g_z23 rfl rfl | exact x_rb g_z23 rfl rfl | exact ⟨by omega, by omega⟩)⟩
  · skip
    refine x_sipush k88_9 (by decide +kernel) ?_
    exact x_iret k88_12 rfl ⟨hG0, f0, (-1004), rfl, ⟨by decide, by decide⟩⟩
theorem C_X10_word_0 (s0 : xS) (hG0 : GI s0) (a : Int) (b_a : (-2147483648) ≤ a ∧ a ≤ 2147483647) (b : Int) (b_b : (-2147483648) ≤ b ∧ b ≤ 2147483647) (d : Int) (b_d : (-2147483648) ≤ d ∧ d ≤ 2147483647) : xe none 108 0 (lv_args 0 [.ref 0, vi a, vi b, vi d]) [] s0 0 0 (fun s' v => GI s' ∧ FL [2244, 2304, 2368, 2432] s0 s' ∧ ∃ z, v = some (vi z) ∧ ((-1004) ≤ z ∧ z ≤ 127)) := by
  have f0 : FL [2244, 2304, 2368, 2432] s0 s0 := FL.rf
  show xe none 108 0 [(0, .ref 0), (1, vi a), (2, vi b), (3, vi d)] [] s0 0 0 _
  refine x_A k108_0 (fun _ => rfl) ?_
  refine x_getR k108_1 (f := 0) rfl (q := 0) (n := 12) (kd := 3) ⟨by decide, rfl⟩ (q2 := 1) (by decide) rfl ?_
  refine x_A k108_4 (fun _ => rfl) ?_
  obtain ⟨z1, e_z1⟩ : ∃ z, z = s0 1 4 := ⟨_, rfl⟩
  have g_z1 : (1 : Int) ≤ s0 1 4 ∧ s0 1 4 ≤ 40 := hG0 1 4
  refine x_callV k108_5 (y := 59) (n := 1) (w0 := 0) (w1 := 1) (as := [vi d]) (rest := []) (by decide +kernel) (q := 1) (nq := 5) (kq := 4) ⟨by decide, rfl⟩ rfl rfl rfl rfl (xe_mono (C_X7_has_1 s0 hG0 d (by first | exact x_rb b_d rfl rfl | exact ⟨by omega, by omega⟩)) ?_)
  rintro s3 v ⟨h_s3, z2, rfl, hz_z2⟩
  rw [h_s3]
  rcases hz_z2 with ⟨c_z2, e_z2⟩ | ⟨c_z2, e_z2⟩
  · rw [e_z2]
    show xe none 108 8 [(0, .ref 0), (1, vi a), (2, vi b), (3, vi d)] [vi 1] s0 0 0 _
    refine x_if_ne k108_8 (t := 15) rfl ⟨by decide, by decide⟩ (fun c4 => ?_) (fun c4 => by exfalso; omega)
    refine x_A k108_15 (fun _ => rfl) ?_
    refine x_A k108_16 (fun _ => rfl) ?_
    refine x_callS k108_17 (y := 124) (n := 2) (w0 := 0) (w1 := 2) (as := [vi a, vi b]) (rest := []) (by decide +kernel) rfl rfl rfl rfl (xe_mono (C_X10_isWord s0 hG0 a (by first | exact x_rb b_a rfl rfl | exact ⟨by omega, by omega⟩) b (by first | exact x_rb b_b rfl rfl | exact ⟨by omega, by omega⟩)) ?_)
    rintro s6 v ⟨h_s6, z5, rfl, hz_z5⟩
    rw [h_s6]
    rcases hz_z5 with ⟨c_z5, e_z5⟩ | ⟨c_z5, e_z5⟩
    · rw [e_z5]
      show xe none 108 20 [(0, .ref 0), (1, vi a), (2, vi b), (3, vi d)] [vi 1] s0 0 0 _
      refine x_if_ne k108_20 (t := 27) rfl ⟨by decide, by decide⟩ (fun c7 => ?_) (fun c7 => by exfalso; omega)
      refine x_A k108_27 (fun _ => rfl) ?_
      refine x_getR k108_28 (f := 6) rfl (q := 0) (n := 12) (kd := 3) ⟨by decide, rfl⟩ (q2 := 214) (by decide) rfl ?_
      refine x_A k108_31 (fun _ => rfl) ?_
      refine x_A k108_32 (fun _ => rfl) ?_
      refine x_callV k108_33 (y := 89) (n := 2) (w0 := 0) (w1 := 2) (as := [vi a, vi b]) (rest := []) (by decide +kernel) (q := 214) (nq := 4) (kq := 10) ⟨by decide, rfl⟩ rfl rfl rfl rfl (xe_mono (C_X9_marksOf_214 s0 hG0 a (by first | exact x_rb b_a rfl rfl | exact ⟨by omega, by omega⟩) b (by first | exact x_rb b_b rfl rfl | exact ⟨by omega, by omega⟩)) ?_)
      rintro s9 v ⟨-, t_s9, z8, rfl, b_z8⟩
      rw [t_s9.nil]
      show xe none 108 36 [(0, .ref 0), (1, vi a), (2, vi b), (3, vi d)] [vj z8] s0 0 0 _
      refine x_A k108_36 (fun _ => rfl) ?_
      refine x_lushr_any k108_37 (fun z10 b_z10 => ?_)
      refine x_lconst k108_38 (z := 1) (by decide +kernel) ?_
      refine x_land_mask k108_39 ⟨by omega, by omega⟩ (fun z11 g_z11 => ?_)
      refine x_lconst k108_40 (z := 0) (by decide +kernel) ?_
      refine x_lc_eq k108_41 k108_42 (t := 49) rfl ⟨by omega, by omega⟩ ⟨by omega, by omega⟩ (fun c12 => ?_) (fun c12 => ?_)
      · skip
        refine x_A k108_49 (fun _ => rfl) ?_
        refine x_getR k108_50 (f := 6) rfl (q := 0) (n := 12) (kd := 3) ⟨by decide, rfl⟩ (q2 := 214) (by decide) rfl ?_
        refine x_A k108_53 (fun _ => rfl) ?_
        refine x_A k108_54 (fun _ => rfl) ?_
        refine x_A k108_55 (fun _ => rfl) ?_
        refine x_callV k108_56 (y := 88) (n := 3) (w0 := 0) (w1 := 3) (as := [vi a, vi b, vi d]) (rest := []) (by decide +kernel) (q := 214) (nq := 4) (kq := 10) ⟨by decide, rfl⟩ rfl rfl rfl rfl (xe_mono (C_X9_add_214 s0 hG0 a (by first | exact x_rb b_a rfl rfl | exact ⟨by omega, by omega⟩) b (by first | exact x_rb b_b rfl rfl | exact ⟨by omega, by omega⟩) d (by first | exact x_rb b_d rfl rfl | exact ⟨by omega, by omega⟩)) ?_)
        rintro s14 v ⟨hG_s14, t_s14, z13, rfl, g_z13⟩
        have f_s14 : FL [2244, 2304, 2368, 2432] s0 s14 := f0.tr t_s14 (by decide +kernel)
        have q15 : s14 1 4 = z1 := (t_s14 1 4 (show 69 ∉ [2244, 2304, 2368, 2432] from by decide +kernel)).trans e_z1.symm
        show xe none 108 59 [(0, .ref 0), (1, vi a), (2, vi b), (3, vi d)] [vi z13] s14 0 0 _
        exact x_iret k108_59 rfl ⟨hG_s14, f_s14, z13, rfl, (by first | exact x_rbe e_z13 g_z13 rfl rfl | exact x_rb g_z13 rfl rfl | exact ⟨by omega, by omega⟩)⟩
      · skip
        refine x_sipush k108_45 (by decide +kernel) ?_
        exact x_iret k108_48 rfl ⟨hG0, f0, (-1003), rfl, ⟨by decide, by decide⟩⟩
    · rw [e_z5]
      show xe none 108 20 [(0, .ref 0), (1, vi a), (2, vi b), (3, vi d)] [vi 0] s0 0 0 _
      refine x_if_ne k108_20 (t := 27) rfl ⟨by decide, by decide⟩ (fun c16 => by exfalso; omega) (fun c16 => ?_)
      refine x_sipush k108_23 (by decide +kernel) ?_
      exact x_iret k108_26 rfl ⟨hG0, f0, (-1002), rfl, ⟨by decide, by decide⟩⟩
  · rw [e_z2]
    show xe none 108 8 [(0, .ref 0), (1, vi a), (2, vi b), (3, vi d)] [vi 0] s0 0 0 _
    refine x_if_ne k108_8 (t := 15) rfl ⟨by decide, by decide⟩ (fun c17 => by exfalso; omega) (fun c17 => ?_)
    refine x_sipush k108_11 (by decide +kernel) ?_
    exact x_iret k108_14 rfl ⟨hG0, f0, (-1001), rfl, ⟨by decide, by decide⟩⟩
theorem C_X10_leads_0 (s0 : xS) (hG0 : GI s0) (a : Int) (b_a : (-2147483648) ≤ a ∧ a ≤ 2147483647) (b : Int) (b_b : (-2147483648) ≤ b ∧ b ≤ 2147483647) : xe none 109 0 (lv_args 0 [.ref 0, vi a, vi b]) [] s0 0 0 (fun s' v => GI s' ∧ FL [] s0 s' ∧ ∃ z, v = some (vi z) ∧ ((-1004) ≤ z ∧ z ≤ 127)) := by
  have f0 : FL [] s0 s0 := FL.rf
  show xe none 109 0 [(0, .ref 0), (1, vi a), (2, vi b)] [] s0 0 0 _
  refine x_A k109_0 (fun _ => rfl) ?_
  refine x_A k109_1 (fun _ => rfl) ?_
  refine x_callS k109_2 (y := 124) (n := 2) (w0 := 0) (w1 := 2) (as := [vi a, vi b]) (rest := []) (by decide +kernel) rfl rfl rfl rfl (xe_mono (C_X10_isWord s0 hG0 a (by first | exact x_rb b_a rfl rfl | exact ⟨by omega, by omega⟩) b (by first | exact x_rb b_b rfl rfl | exact ⟨by omega, by omega⟩)) ?_)
  rintro s2 v ⟨h_s2, z1, rfl, hz_z1⟩
  rw [h_s2]
  rcases hz_z1 with ⟨c_z1, e_z1⟩ | ⟨c_z1, e_z1⟩
  · rw [e_z1]
    show xe none 109 5 [(0, .ref 0), (1, vi a), (2, vi b)] [vi 1] s0 0 0 _
    refine x_if_ne k109_5 (t := 12) rfl ⟨by decide, by decide⟩ (fun c3 => ?_) (fun c3 => by exfalso; omega)
    refine x_A k109_12 (fun _ => rfl) ?_
    refine x_A k109_13 (fun _ => rfl) ?_
    refine x_getR k109_14 (f := 6) rfl (q := 0) (n := 12) (kd := 3) ⟨by decide, rfl⟩ (q2 := 214) (by decide) rfl ?_
    refine x_A k109_17 (fun _ => rfl) ?_
    refine x_A k109_18 (fun _ => rfl) ?_
    refine x_callV k109_19 (y := 89) (n := 2) (w0 := 1) (w1 := 2) (as := [vi a, vi b]) (rest := [vi 2]) (by decide +kernel) (q := 214) (nq := 4) (kq := 10) ⟨by decide, rfl⟩ rfl rfl rfl rfl (xe_mono (C_X9_marksOf_214 s0 hG0 a (by first | exact x_rb b_a rfl rfl | exact ⟨by omega, by omega⟩) b (by first | exact x_rb b_b rfl rfl | exact ⟨by omega, by omega⟩)) ?_)
    rintro s5 v ⟨-, t_s5, z4, rfl, b_z4⟩
    rw [t_s5.nil]
    show xe none 109 22 [(0, .ref 0), (1, vi a), (2, vi b)] [vj z4, vi 2] s0 0 0 _
    refine x_callS k109_22 (y := 219) (n := 1) (w0 := 1) (w1 := 2) (as := [vj z4]) (rest := [vi 2]) (by decide +kernel) rfl rfl rfl rfl (xe_mono (C_J13_bitCount_95d88 s0 hG0 z4 b_z4) ?_)
    rintro s7 v ⟨-, t_s7, z6, rfl, g_z6⟩
    rw [t_s7.nil]
    show xe none 109 25 [(0, .ref 0), (1, vi a), (2, vi b)] [vi z6, vi 2] s0 0 0 _
    refine x_callS k109_25 (y := 221) (n := 2) (w0 := 0) (w1 := 2) (as := [vi 2, vi z6]) (rest := []) (by decide +kernel) rfl rfl rfl rfl (xe_mono (C_J9_min_7cf53 s0 hG0 2 ⟨by decide, by decide⟩ z6 (by first | exact x_rbe e_z6 g_z6 rfl rfl | exact x_rb g_z6 rfl rfl | exact ⟨by omega, by omega⟩)) ?_)
    rintro s9 v ⟨h_s9, z8, rfl, g_z8⟩
    rw [h_s9]
    show xe none 109 28 [(0, .ref 0), (1, vi a), (2, vi b)] [vi z8] s0 0 0 _
    exact x_iret k109_28 rfl ⟨hG0, f0, z8, rfl, (by first | exact x_rbe e_z8 g_z8 rfl rfl | exact x_rb g_z8 rfl rfl | exact ⟨by omega, by omega⟩)⟩
  · rw [e_z1]
    show xe none 109 5 [(0, .ref 0), (1, vi a), (2, vi b)] [vi 0] s0 0 0 _
    refine x_if_ne k109_5 (t := 12) rfl ⟨by decide, by decide⟩ (fun c10 => by exfalso; omega) (fun c10 => ?_)
    refine x_sipush k109_8 (by decide +kernel) ?_
    exact x_iret k109_11 rfl ⟨hG0, f0, (-1002), rfl, ⟨by decide, by decide⟩⟩
theorem C_X10_below_0 (s0 : xS) (hG0 : GI s0) (a : Int) (b_a : (-2147483648) ≤ a ∧ a ≤ 2147483647) (b : Int) (b_b : (-2147483648) ≤ b ∧ b ≤ 2147483647) (d : Int) (b_d : (-2147483648) ≤ d ∧ d ≤ 2147483647) : xe none 96 0 (lv_args 0 [.ref 0, vi a, vi b, vi d]) [] s0 0 0 (fun s' v => GI s' ∧ FL [] s0 s' ∧ ∃ z, v = some (vi z) ∧ ((-1004) ≤ z ∧ z ≤ 1)) := by
  have f0 : FL [] s0 s0 := FL.rf
  show xe none 96 0 [(0, .ref 0), (1, vi a), (2, vi b), (3, vi d)] [] s0 0 0 _
  refine x_A k96_0 (fun _ => rfl) ?_
  refine x_getR k96_1 (f := 0) rfl (q := 0) (n := 12) (kd := 3) ⟨by decide, rfl⟩ (q2 := 1) (by decide) rfl ?_
  refine x_A k96_4 (fun _ => rfl) ?_
  obtain ⟨z1, e_z1⟩ : ∃ z, z = s0 1 4 := ⟨_, rfl⟩
  have g_z1 : (1 : Int) ≤ s0 1 4 ∧ s0 1 4 ≤ 40 := hG0 1 4
  refine x_callV k96_5 (y := 59) (n := 1) (w0 := 0) (w1 := 1) (as := [vi a]) (rest := []) (by decide +kernel) (q := 1) (nq := 5) (kq := 4) ⟨by decide, rfl⟩ rfl rfl rfl rfl (xe_mono (C_X7_has_1 s0 hG0 a (by first | exact x_rb b_a rfl rfl | exact ⟨by omega, by omega⟩)) ?_)
  rintro s3 v ⟨h_s3, z2, rfl, hz_z2⟩
  rw [h_s3]
  rcases hz_z2 with ⟨c_z2, e_z2⟩ | ⟨c_z2, e_z2⟩
  · rw [e_z2]
    show xe none 96 8 [(0, .ref 0), (1, vi a), (2, vi b), (3, vi d)] [vi 1] s0 0 0 _
    refine x_if_eq k96_8 (t := 22) rfl ⟨by decide, by decide⟩ (fun c4 => by exfalso; omega) (fun c4 => ?_)
    refine x_A k96_11 (fun _ => rfl) ?_
    refine x_getR k96_12 (f := 0) rfl (q := 0) (n := 12) (kd := 3) ⟨by decide, rfl⟩ (q2 := 1) (by decide) rfl ?_
    refine x_A k96_15 (fun _ => rfl) ?_
    refine x_callV k96_16 (y := 59) (n := 1) (w0 := 0) (w1 := 1) (as := [vi b]) (rest := []) (by decide +kernel) (q := 1) (nq := 5) (kq := 4) ⟨by decide, rfl⟩ rfl rfl rfl rfl (xe_mono (C_X7_has_1 s0 hG0 b (by first | exact x_rb b_b rfl rfl | exact ⟨by omega, by omega⟩)) ?_)
    rintro s6 v ⟨h_s6, z5, rfl, hz_z5⟩
    rw [h_s6]
    rcases hz_z5 with ⟨c_z5, e_z5⟩ | ⟨c_z5, e_z5⟩
    · rw [e_z5]
      show xe none 96 19 [(0, .ref 0), (1, vi a), (2, vi b), (3, vi d)] [vi 1] s0 0 0 _
      refine x_if_ne k96_19 (t := 26) rfl ⟨by decide, by decide⟩ (fun c7 => ?_) (fun c7 => by exfalso; omega)
      refine x_A k96_26 (fun _ => rfl) ?_
      refine x_A k96_27 (fun _ => rfl) ?_
      obtain ⟨z8, e_z8⟩ : ∃ z, z = s0 0 10 := ⟨_, rfl⟩
      have g_z8 : (0 : Int) ≤ s0 0 10 ∧ s0 0 10 ≤ 9 := hG0 0 10
      refine x_callV k96_28 (y := 125) (n := 1) (w0 := 0) (w1 := 1) (as := [vi d]) (rest := []) (by decide +kernel) (q := 0) (nq := 12) (kq := 3) ⟨by decide, rfl⟩ rfl rfl rfl rfl (xe_mono (C_X10_isKnownEdition_0 s0 hG0 d (by first | exact x_rb b_d rfl rfl | exact ⟨by omega, by omega⟩)) ?_)
      rintro s10 v ⟨h_s10, z9, rfl, hz_z9⟩
      rw [h_s10]
      rcases hz_z9 with ⟨c_z9, e_z9⟩ | ⟨c_z9, e_z9⟩
      · rw [e_z9]
        show xe none 96 31 [(0, .ref 0), (1, vi a), (2, vi b), (3, vi d)] [vi 1] s0 0 0 _
        refine x_if_ne k96_31 (t := 38) rfl ⟨by decide, by decide⟩ (fun c11 => ?_) (fun c11 => by exfalso; omega)
        refine x_A k96_38 (fun _ => rfl) ?_
        refine x_getR k96_39 (f := 0) rfl (q := 0) (n := 12) (kd := 3) ⟨by decide, rfl⟩ (q2 := 1) (by decide) rfl ?_
        refine x_A k96_42 (fun _ => rfl) ?_
        refine x_A k96_43 (fun _ => rfl) ?_
        refine x_A k96_44 (fun _ => rfl) ?_
        refine x_callV k96_45 (y := 66) (n := 3) (w0 := 0) (w1 := 3) (as := [vi a, vi b, vi d]) (rest := []) (by decide +kernel) (q := 1) (nq := 5) (kq := 4) ⟨by decide, rfl⟩ rfl rfl rfl rfl (xe_mono (C_X7_isBelow_1 s0 hG0 a (by first | exact x_rb b_a rfl rfl | exact ⟨by omega, by omega⟩) b (by first | exact x_rb b_b rfl rfl | exact ⟨by omega, by omega⟩) d (by first | exact x_rb b_d rfl rfl | exact ⟨by omega, by omega⟩)) ?_)
        rintro s13 v ⟨h_s13, z12, rfl, hz_z12⟩
        rw [h_s13]
        rcases hz_z12 with ⟨c_z12, e_z12⟩ | e_z12
        · rw [e_z12]
          show xe none 96 48 [(0, .ref 0), (1, vi a), (2, vi b), (3, vi d)] [vi 1] s0 0 0 _
          refine x_callS k96_48 (y := 126) (n := 1) (w0 := 0) (w1 := 1) (as := [vi 1]) (rest := []) (by decide +kernel) rfl rfl rfl rfl (xe_mono (C_X10_oneIf s0 hG0 1 ⟨by decide, by decide⟩) ?_)
          rintro s15 v ⟨-, t_s15, z14, rfl, g_z14⟩
          rw [t_s15.nil]
          show xe none 96 51 [(0, .ref 0), (1, vi a), (2, vi b), (3, vi d)] [vi z14] s0 0 0 _
          exact x_iret k96_51 rfl ⟨hG0, f0, z14, rfl, (by first | exact x_rbe e_z14 g_z14 rfl rfl | exact x_rb g_z14 rfl rfl | exact ⟨by omega, by omega⟩)⟩
        · rw [e_z12]
          show xe none 96 48 [(0, .ref 0), (1, vi a), (2, vi b), (3, vi d)] [vi 0] s0 0 0 _
          refine x_callS k96_48 (y := 126) (n := 1) (w0 := 0) (w1 := 1) (as := [vi 0]) (rest := []) (by decide +kernel) rfl rfl rfl rfl (xe_mono (C_X10_oneIf s0 hG0 0 ⟨by decide, by decide⟩) ?_)
          rintro s17 v ⟨-, t_s17, z16, rfl, g_z16⟩
          rw [t_s17.nil]
          show xe none 96 51 [(0, .ref 0), (1, vi a), (2, vi b), (3, vi d)] [vi z16] s0 0 0 _
          exact x_iret k96_51 rfl ⟨hG0, f0, z16, rfl, (by first | exact x_rbe e_z16 g_z16 rfl rfl | exact x_rb g_z16 rfl rfl | exact ⟨by omega, by omega⟩)⟩
      · rw [e_z9]
        show xe none 96 31 [(0, .ref 0), (1, vi a), (2, vi b), (3, vi d)] [vi 0] s0 0 0 _
        refine x_if_ne k96_31 (t := 38) rfl ⟨by decide, by decide⟩ (fun c18 => by exfalso; omega) (fun c18 => ?_)
        refine x_sipush k96_34 (by decide +kernel) ?_
        exact x_iret k96_37 rfl ⟨hG0, f0, (-1002), rfl, ⟨by decide, by decide⟩⟩
    · rw [e_z5]
      show xe none 96 19 [(0, .ref 0), (1, vi a), (2, vi b), (3, vi d)] [vi 0] s0 0 0 _
      refine x_if_ne k96_19 (t := 26) rfl ⟨by decide, by decide⟩ (fun c19 => by exfalso; omega) (fun c19 => ?_)
      refine x_sipush k96_22 (by decide +kernel) ?_
      exact x_iret k96_25 rfl ⟨hG0, f0, (-1001), rfl, ⟨by decide, by decide⟩⟩
  · rw [e_z2]
    show xe none 96 8 [(0, .ref 0), (1, vi a), (2, vi b), (3, vi d)] [vi 0] s0 0 0 _
    refine x_if_eq k96_8 (t := 22) rfl ⟨by decide, by decide⟩ (fun c20 => ?_) (fun c20 => by exfalso; omega)
    refine x_sipush k96_22 (by decide +kernel) ?_
    exact x_iret k96_25 rfl ⟨hG0, f0, (-1001), rfl, ⟨by decide, by decide⟩⟩
theorem C_X10_move_0 (s0 : xS) (hG0 : GI s0) (a : Int) (b_a : (-2147483648) ≤ a ∧ a ≤ 2147483647) (b : Int) (b_b : (-2147483648) ≤ b ∧ b ≤ 2147483647) : xe none 93 0 (lv_args 0 [.ref 0, vi a, vi b]) [] s0 0 0 (fun s' v => GI s' ∧ FL [384, 3276, 3277] s0 s' ∧ ∃ z, v = some (vi z) ∧ ((-1004) ≤ z ∧ z ≤ 39)) := by
  have f0 : FL [384, 3276, 3277] s0 s0 := FL.rf
  show xe none 93 0 [(0, .ref 0), (1, vi a), (2, vi b)] [] s0 0 0 _
  refine x_A k93_0 (fun _ => rfl) ?_
  refine x_getR k93_1 (f := 0) rfl (q := 0) (n := 12) (kd := 3) ⟨by decide, rfl⟩ (q2 := 1) (by decide) rfl ?_
  refine x_A k93_4 (fun _ => rfl) ?_
  obtain ⟨z1, e_z1⟩ : ∃ z, z = s0 1 4 := ⟨_, rfl⟩
  have g_z1 : (1 : Int) ≤ s0 1 4 ∧ s0 1 4 ≤ 40 := hG0 1 4
  refine x_callV k93_5 (y := 59) (n := 1) (w0 := 0) (w1 := 1) (as := [vi a]) (rest := []) (by decide +kernel) (q := 1) (nq := 5) (kq := 4) ⟨by decide, rfl⟩ rfl rfl rfl rfl (xe_mono (C_X7_has_1 s0 hG0 a (by first | exact x_rb b_a rfl rfl | exact ⟨by omega, by omega⟩)) ?_)
  rintro s3 v ⟨h_s3, z2, rfl, hz_z2⟩
  rw [h_s3]
  rcases hz_z2 with ⟨c_z2, e_z2⟩ | ⟨c_z2, e_z2⟩
  · rw [e_z2]
    show xe none 93 8 [(0, .ref 0), (1, vi a), (2, vi b)] [vi 1] s0 0 0 _
    refine x_if_eq k93_8 (t := 22) rfl ⟨by decide, by decide⟩ (fun c4 => by exfalso; omega) (fun c4 => ?_)
    refine x_A k93_11 (fun _ => rfl) ?_
    refine x_getR k93_12 (f := 0) rfl (q := 0) (n := 12) (kd := 3) ⟨by decide, rfl⟩ (q2 := 1) (by decide) rfl ?_
    refine x_A k93_15 (fun _ => rfl) ?_
    refine x_callV k93_16 (y := 59) (n := 1) (w0 := 0) (w1 := 1) (as := [vi b]) (rest := []) (by decide +kernel) (q := 1) (nq := 5) (kq := 4) ⟨by decide, rfl⟩ rfl rfl rfl rfl (xe_mono (C_X7_has_1 s0 hG0 b (by first | exact x_rb b_b rfl rfl | exact ⟨by omega, by omega⟩)) ?_)
    rintro s6 v ⟨h_s6, z5, rfl, hz_z5⟩
    rw [h_s6]
    rcases hz_z5 with ⟨c_z5, e_z5⟩ | ⟨c_z5, e_z5⟩
    · rw [e_z5]
      show xe none 93 19 [(0, .ref 0), (1, vi a), (2, vi b)] [vi 1] s0 0 0 _
      refine x_if_ne k93_19 (t := 26) rfl ⟨by decide, by decide⟩ (fun c7 => ?_) (fun c7 => by exfalso; omega)
      refine x_A k93_26 (fun _ => rfl) ?_
      refine x_if_eq k93_27 (t := 60) rfl (by first | exact x_rb b_a rfl rfl | exact ⟨by omega, by omega⟩) (fun c8 => ?_) (fun c8 => ?_)
      · skip
        refine x_sipush k93_60 (by decide +kernel) ?_
        exact x_iret k93_63 rfl ⟨hG0, f0, (-1003), rfl, ⟨by decide, by decide⟩⟩
      · skip
        refine x_A k93_30 (fun _ => rfl) ?_
        refine x_getR k93_31 (f := 0) rfl (q := 0) (n := 12) (kd := 3) ⟨by decide, rfl⟩ (q2 := 1) (by decide) rfl ?_
        refine x_A k93_34 (fun _ => rfl) ?_
        refine x_A k93_35 (fun _ => rfl) ?_
        refine x_getI k93_36 (f := 10) rfl (q := 0) (n := 12) (kd := 3) ⟨by decide, rfl⟩ (by decide) rfl ?_
        refine x_top (fun z9 e_z9 => ?_)
        have g_z9 : (0 : Int) ≤ s0 0 10 ∧ s0 0 10 ≤ 9 := hG0 0 10
        refine x_callV k93_39 (y := 64) (n := 2) (w0 := 0) (w1 := 2) (as := [vi a, vi z9]) (rest := []) (by decide +kernel) (q := 1) (nq := 5) (kq := 4) ⟨by decide, rfl⟩ rfl rfl rfl rfl (xe_mono (C_X7_isThere_1 s0 hG0 a (by first | exact x_rb b_a rfl rfl | exact ⟨by omega, by omega⟩) z9 (by first | exact x_rbe e_z9 g_z9 rfl rfl | exact x_rb g_z9 rfl rfl | exact ⟨by omega, by omega⟩)) ?_)
        rintro s11 v ⟨h_s11, z10, rfl, hz_z10⟩
        rw [h_s11]
        rcases hz_z10 with ⟨c_z10, e_z10⟩ | e_z10
        · rw [e_z10]
          show xe none 93 42 [(0, .ref 0), (1, vi a), (2, vi b)] [vi 1] s0 0 0 _
          refine x_if_eq k93_42 (t := 60) rfl ⟨by decide, by decide⟩ (fun c12 => by exfalso; omega) (fun c12 => ?_)
          refine x_A k93_45 (fun _ => rfl) ?_
          refine x_getR k93_46 (f := 0) rfl (q := 0) (n := 12) (kd := 3) ⟨by decide, rfl⟩ (q2 := 1) (by decide) rfl ?_
          refine x_A k93_49 (fun _ => rfl) ?_
          refine x_A k93_50 (fun _ => rfl) ?_
          refine x_getI k93_51 (f := 10) rfl (q := 0) (n := 12) (kd := 3) ⟨by decide, rfl⟩ (by decide) rfl ?_
          rw [e_z9.symm]
          refine x_callV k93_54 (y := 64) (n := 2) (w0 := 0) (w1 := 2) (as := [vi b, vi z9]) (rest := []) (by decide +kernel) (q := 1) (nq := 5) (kq := 4) ⟨by decide, rfl⟩ rfl rfl rfl rfl (xe_mono (C_X7_isThere_1 s0 hG0 b (by first | exact x_rb b_b rfl rfl | exact ⟨by omega, by omega⟩) z9 (by first | exact x_rbe e_z9 g_z9 rfl rfl | exact x_rb g_z9 rfl rfl | exact ⟨by omega, by omega⟩)) ?_)
          rintro s14 v ⟨h_s14, z13, rfl, hz_z13⟩
          rw [h_s14]
          rcases hz_z13 with ⟨c_z13, e_z13⟩ | e_z13
          · rw [e_z13]
            show xe none 93 57 [(0, .ref 0), (1, vi a), (2, vi b)] [vi 1] s0 0 0 _
            refine x_if_ne k93_57 (t := 64) rfl ⟨by decide, by decide⟩ (fun c15 => ?_) (fun c15 => by exfalso; omega)
            refine x_A k93_64 (fun _ => rfl) ?_
            refine x_getR k93_65 (f := 0) rfl (q := 0) (n := 12) (kd := 3) ⟨by decide, rfl⟩ (q2 := 1) (by decide) rfl ?_
            refine x_A k93_68 (fun _ => rfl) ?_
            refine x_A k93_69 (fun _ => rfl) ?_
            refine x_A k93_70 (fun _ => rfl) ?_
            refine x_getI k93_71 (f := 10) rfl (q := 0) (n := 12) (kd := 3) ⟨by decide, rfl⟩ (by decide) rfl ?_
            rw [e_z9.symm]
            refine x_callV k93_74 (y := 66) (n := 3) (w0 := 0) (w1 := 3) (as := [vi b, vi a, vi z9]) (rest := []) (by decide +kernel) (q := 1) (nq := 5) (kq := 4) ⟨by decide, rfl⟩ rfl rfl rfl rfl (xe_mono (C_X7_isBelow_1 s0 hG0 b (by first | exact x_rb b_b rfl rfl | exact ⟨by omega, by omega⟩) a (by first | exact x_rb b_a rfl rfl | exact ⟨by omega, by omega⟩) z9 (by first | exact x_rbe e_z9 g_z9 rfl rfl | exact x_rb g_z9 rfl rfl | exact ⟨by omega, by omega⟩)) ?_)
            rintro s17 v ⟨h_s17, z16, rfl, hz_z16⟩
            rw [h_s17]
            rcases hz_z16 with ⟨c_z16, e_z16⟩ | e_z16
            · rw [e_z16]
              show xe none 93 77 [(0, .ref 0), (1, vi a), (2, vi b)] [vi 1] s0 0 0 _
              refine x_if_eq k93_77 (t := 84) rfl ⟨by decide, by decide⟩ (fun c18 => by exfalso; omega) (fun c18 => ?_)
              refine x_sipush k93_80 (by decide +kernel) ?_
              exact x_iret k93_83 rfl ⟨hG0, f0, (-1003), rfl, ⟨by decide, by decide⟩⟩
            · rw [e_z16]
              show xe none 93 77 [(0, .ref 0), (1, vi a), (2, vi b)] [vi 0] s0 0 0 _
              refine x_if_eq k93_77 (t := 84) rfl ⟨by decide, by decide⟩ (fun c19 => ?_) (fun c19 => by exfalso; omega)
              refine x_A k93_84 (fun _ => rfl) ?_
              refine x_getR k93_85 (f := 9) rfl (q := 0) (n := 12) (kd := 3) ⟨by decide, rfl⟩ (q2 := 243) (by decide) rfl ?_
              refine x_callV k93_88 (y := 73) (n := 0) (w0 := 0) (w1 := 0) (as := []) (rest := []) (by decide +kernel) (q := 243) (nq := 13) (kq := 13) ⟨by decide, rfl⟩ rfl rfl rfl rfl (xe_mono (C_X8_forget_243 s0 hG0) ?_)
              rintro s21 v ⟨hG_s21, t_s21, rfl⟩
              have f_s21 : FL [384, 3276, 3277] s0 s21 := f0.tr t_s21 (by decide +kernel)
              have q22 : s21 1 4 = z1 := (t_s21 1 4 (show 69 ∉ [3276, 3277] from by decide +kernel)).trans e_z1.symm
              have q23 : s21 0 10 = z9 := (t_s21 0 10 (show 11 ∉ [3276, 3277] from by decide +kernel)).trans e_z9.symm
              show xe none 93 91 [(0, .ref 0), (1, vi a), (2, vi b)] [] s21 0 0 _
              refine x_A k93_91 (fun _ => rfl) ?_
              refine x_getR k93_92 (f := 0) rfl (q := 0) (n := 12) (kd := 3) ⟨by decide, rfl⟩ (q2 := 1) (by decide) rfl ?_
              refine x_A k93_95 (fun _ => rfl) ?_
              refine x_A k93_96 (fun _ => rfl) ?_
              refine x_getI k93_97 (f := 10) rfl (q := 0) (n := 12) (kd := 3) ⟨by decide, rfl⟩ (by decide) rfl ?_
              rw [q23]
              refine x_callV k93_100 (y := 62) (n := 2) (w0 := 0) (w1 := 2) (as := [vi a, vi z9]) (rest := []) (by decide +kernel) (q := 1) (nq := 5) (kq := 4) ⟨by decide, rfl⟩ rfl rfl rfl rfl (xe_mono (C_X7_parentIn_1 s21 hG_s21 a (by first | exact x_rb b_a rfl rfl | exact ⟨by omega, by omega⟩) z9 (by first | exact x_rbe e_z9 g_z9 rfl rfl | exact x_rb g_z9 rfl rfl | exact ⟨by omega, by omega⟩)) ?_)
              rintro s25 v ⟨-, t_s25, z24, rfl, g_z24⟩
              rw [t_s25.nil]
              show xe none 93 103 [(0, .ref 0), (1, vi a), (2, vi b)] [vi z24] s21 0 0 _
              refine x_istore_n k93_103 (ls' := [(3, vi z24), (0, .ref 0), (1, vi a), (2, vi b)]) (by decide) rfl ?_
              refine x_A k93_104 (fun _ => rfl) ?_
              refine x_getR k93_105 (f := 0) rfl (q := 0) (n := 12) (kd := 3) ⟨by decide, rfl⟩ (q2 := 1) (by decide) rfl ?_
              refine x_A k93_108 (fun _ => rfl) ?_
              refine x_A k93_109 (fun _ => rfl) ?_
              refine x_A k93_110 (fun _ => rfl) ?_
              refine x_getI k93_111 (f := 10) rfl (q := 0) (n := 12) (kd := 3) ⟨by decide, rfl⟩ (by decide) rfl ?_
              rw [q23]
              refine x_callV k93_114 (y := 61) (n := 3) (w0 := 0) (w1 := 3) (as := [vi a, vi b, vi z9]) (rest := []) (by decide +kernel) (q := 1) (nq := 5) (kq := 4) ⟨by decide, rfl⟩ rfl rfl rfl rfl (xe_mono (C_X7_setParent_1 s21 hG_s21 a (by first | exact x_rb b_a rfl rfl | exact ⟨by omega, by omega⟩) b (by first | exact x_rb b_b rfl rfl | exact ⟨by omega, by omega⟩) z9 (by first | exact x_rbe e_z9 g_z9 rfl rfl | exact x_rb g_z9 rfl rfl | exact ⟨by omega, by omega⟩)) ?_)
              rintro s27 v ⟨hG_s27, t_s27, rfl⟩
              have f_s27 : FL [384, 3276, 3277] s0 s27 := f_s21.tr t_s27 (by decide +kernel)
              have q28 : s27 1 4 = z1 := (t_s27 1 4 (show 69 ∉ [384] from by decide +kernel)).trans q22
              have q29 : s27 0 10 = z9 := (t_s27 0 10 (show 11 ∉ [384] from by decide +kernel)).trans q23
              show xe none 93 117 [(3, vi z24), (0, .ref 0), (1, vi a), (2, vi b)] [] s27 0 0 _
              refine x_A k93_117 (fun _ => rfl) ?_
              exact x_iret k93_118 rfl ⟨hG_s27, f_s27, z24, rfl, (by first | exact x_rbe e_z24 g_z24 rfl rfl | exact x_rb g_z24 rfl rfl | exact ⟨by omega, by omega⟩)⟩
          · rw [e_z13]
            show xe none 93 57 [(0, .ref 0), (1, vi a), (2, vi b)] [vi 0] s0 0 0 _
            refine x_if_ne k93_57 (t := 64) rfl ⟨by decide, by decide⟩ (fun c30 => by exfalso; omega) (fun c30 => ?_)
            refine x_sipush k93_60 (by decide +kernel) ?_
            exact x_iret k93_63 rfl ⟨hG0, f0, (-1003), rfl, ⟨by decide, by decide⟩⟩
        · rw [e_z10]
          show xe none 93 42 [(0, .ref 0), (1, vi a), (2, vi b)] [vi 0] s0 0 0 _
          refine x_if_eq k93_42 (t := 60) rfl ⟨by decide, by decide⟩ (fun c31 => ?_) (fun c31 => by exfalso; omega)
          refine x_sipush k93_60 (by decide +kernel) ?_
          exact x_iret k93_63 rfl ⟨hG0, f0, (-1003), rfl, ⟨by decide, by decide⟩⟩
    · rw [e_z5]
      show xe none 93 19 [(0, .ref 0), (1, vi a), (2, vi b)] [vi 0] s0 0 0 _
      refine x_if_ne k93_19 (t := 26) rfl ⟨by decide, by decide⟩ (fun c32 => by exfalso; omega) (fun c32 => ?_)
      refine x_sipush k93_22 (by decide +kernel) ?_
      exact x_iret k93_25 rfl ⟨hG0, f0, (-1001), rfl, ⟨by decide, by decide⟩⟩
  · rw [e_z2]
    show xe none 93 8 [(0, .ref 0), (1, vi a), (2, vi b)] [vi 0] s0 0 0 _
    refine x_if_eq k93_8 (t := 22) rfl ⟨by decide, by decide⟩ (fun c33 => ?_) (fun c33 => by exfalso; omega)
    refine x_sipush k93_22 (by decide +kernel) ?_
    exact x_iret k93_25 rfl ⟨hG0, f0, (-1001), rfl, ⟨by decide, by decide⟩⟩
theorem C_X10_end_0 (s0 : xS) (hG0 : GI s0) (a : Int) (b_a : (-2147483648) ≤ a ∧ a ≤ 2147483647) (b : Int) (b_b : (-2147483648) ≤ b ∧ b ≤ 2147483647) : xe none 94 0 (lv_args 0 [.ref 0, vi a, vi b]) [] s0 0 0 (fun s' v => GI s' ∧ FL [192, 256, 3276, 3277] s0 s' ∧ ∃ z, v = some (vi z) ∧ ((-1004) ≤ z ∧ z ≤ 39)) := by
  have f0 : FL [192, 256, 3276, 3277] s0 s0 := FL.rf
  show xe none 94 0 [(0, .ref 0), (1, vi a), (2, vi b)] [] s0 0 0 _
  refine x_A k94_0 (fun _ => rfl) ?_
  refine x_getR k94_1 (f := 0) rfl (q := 0) (n := 12) (kd := 3) ⟨by decide, rfl⟩ (q2 := 1) (by decide) rfl ?_
  refine x_A k94_4 (fun _ => rfl) ?_
  obtain ⟨z1, e_z1⟩ : ∃ z, z = s0 1 4 := ⟨_, rfl⟩
  have g_z1 : (1 : Int) ≤ s0 1 4 ∧ s0 1 4 ≤ 40 := hG0 1 4
  refine x_callV k94_5 (y := 59) (n := 1) (w0 := 0) (w1 := 1) (as := [vi a]) (rest := []) (by decide +kernel) (q := 1) (nq := 5) (kq := 4) ⟨by decide, rfl⟩ rfl rfl rfl rfl (xe_mono (C_X7_has_1 s0 hG0 a (by first | exact x_rb b_a rfl rfl | exact ⟨by omega, by omega⟩)) ?_)
  rintro s3 v ⟨h_s3, z2, rfl, hz_z2⟩
  rw [h_s3]
  rcases hz_z2 with ⟨c_z2, e_z2⟩ | ⟨c_z2, e_z2⟩
  · rw [e_z2]
    show xe none 94 8 [(0, .ref 0), (1, vi a), (2, vi b)] [vi 1] s0 0 0 _
    refine x_if_eq k94_8 (t := 27) rfl ⟨by decide, by decide⟩ (fun c4 => by exfalso; omega) (fun c4 => ?_)
    refine x_A k94_11 (fun _ => rfl) ?_
    refine x_A k94_12 (fun _ => rfl) ?_
    refine x_ic_eq k94_13 (t := 31) rfl (by first | exact x_rb b_b rfl rfl | exact ⟨by omega, by omega⟩) ⟨by decide, by decide⟩ (fun c5 => ?_) (fun c5 => ?_)
    · skip
      refine x_A k94_31 (fun _ => rfl) ?_
      refine x_if_eq k94_32 (t := 55) rfl (by first | exact x_rb b_a rfl rfl | exact ⟨by omega, by omega⟩) (fun c6 => ?_) (fun c6 => ?_)
      · skip
        refine x_sipush k94_55 (by decide +kernel) ?_
        exact x_iret k94_58 rfl ⟨hG0, f0, (-1003), rfl, ⟨by decide, by decide⟩⟩
      · skip
        refine x_A k94_35 (fun _ => rfl) ?_
        refine x_A k94_36 (fun _ => rfl) ?_
        refine x_ic_eq k94_37 (t := 55) rfl (by first | exact x_rb b_a rfl rfl | exact ⟨by omega, by omega⟩) (by first | exact x_rb b_b rfl rfl | exact ⟨by omega, by omega⟩) (fun c7 => by exfalso; omega) (fun c7 => ?_)
        refine x_A k94_40 (fun _ => rfl) ?_
        refine x_getR k94_41 (f := 0) rfl (q := 0) (n := 12) (kd := 3) ⟨by decide, rfl⟩ (q2 := 1) (by decide) rfl ?_
        refine x_A k94_44 (fun _ => rfl) ?_
        refine x_A k94_45 (fun _ => rfl) ?_
        refine x_getI k94_46 (f := 10) rfl (q := 0) (n := 12) (kd := 3) ⟨by decide, rfl⟩ (by decide) rfl ?_
        refine x_top (fun z8 e_z8 => ?_)
        have g_z8 : (0 : Int) ≤ s0 0 10 ∧ s0 0 10 ≤ 9 := hG0 0 10
        refine x_callV k94_49 (y := 64) (n := 2) (w0 := 0) (w1 := 2) (as := [vi a, vi z8]) (rest := []) (by decide +kernel) (q := 1) (nq := 5) (kq := 4) ⟨by decide, rfl⟩ rfl rfl rfl rfl (xe_mono (C_X7_isThere_1 s0 hG0 a (by first | exact x_rb b_a rfl rfl | exact ⟨by omega, by omega⟩) z8 (by first | exact x_rbe e_z8 g_z8 rfl rfl | exact x_rb g_z8 rfl rfl | exact ⟨by omega, by omega⟩)) ?_)
        rintro s10 v ⟨h_s10, z9, rfl, hz_z9⟩
        rw [h_s10]
        rcases hz_z9 with ⟨c_z9, e_z9⟩ | e_z9
        · rw [e_z9]
          show xe none 94 52 [(0, .ref 0), (1, vi a), (2, vi b)] [vi 1] s0 0 0 _
          refine x_if_ne k94_52 (t := 59) rfl ⟨by decide, by decide⟩ (fun c11 => ?_) (fun c11 => by exfalso; omega)
          refine x_A k94_59 (fun _ => rfl) ?_
          refine x_A k94_60 (fun _ => rfl) ?_
          refine x_ic_eq k94_61 (t := 83) rfl (by first | exact x_rb b_b rfl rfl | exact ⟨by omega, by omega⟩) ⟨by decide, by decide⟩ (fun c12 => ?_) (fun c12 => by exfalso; omega)
          refine x_A k94_83 (fun _ => rfl) ?_
          refine x_getR k94_84 (f := 9) rfl (q := 0) (n := 12) (kd := 3) ⟨by decide, rfl⟩ (q2 := 243) (by decide) rfl ?_
          refine x_callV k94_87 (y := 73) (n := 0) (w0 := 0) (w1 := 0) (as := []) (rest := []) (by decide +kernel) (q := 243) (nq := 13) (kq := 13) ⟨by decide, rfl⟩ rfl rfl rfl rfl (xe_mono (C_X8_forget_243 s0 hG0) ?_)
          rintro s14 v ⟨hG_s14, t_s14, rfl⟩
          have f_s14 : FL [192, 256, 3276, 3277] s0 s14 := f0.tr t_s14 (by decide +kernel)
          have q15 : s14 1 4 = z1 := (t_s14 1 4 (show 69 ∉ [3276, 3277] from by decide +kernel)).trans e_z1.symm
          have q16 : s14 0 10 = z8 := (t_s14 0 10 (show 11 ∉ [3276, 3277] from by decide +kernel)).trans e_z8.symm
          show xe none 94 90 [(0, .ref 0), (1, vi a), (2, vi b)] [] s14 0 0 _
          refine x_A k94_90 (fun _ => rfl) ?_
          refine x_getR k94_91 (f := 0) rfl (q := 0) (n := 12) (kd := 3) ⟨by decide, rfl⟩ (q2 := 1) (by decide) rfl ?_
          refine x_getR k94_94 (f := 1) rfl (q := 1) (n := 5) (kd := 4) ⟨by decide, rfl⟩ (q2 := 3) (by decide) rfl ?_
          refine x_A k94_97 (fun _ => rfl) ?_
          refine x_A k94_98 (fun _ => rfl) ?_
          refine x_getI k94_99 (f := 10) rfl (q := 0) (n := 12) (kd := 3) ⟨by decide, rfl⟩ (by decide) rfl ?_
          rw [q16]
          refine x_iast k94_102 (q := 3) (n := 40) ⟨by decide, rfl⟩ (by decide) (by first | exact x_rbl b_a rfl rfl | exact ⟨by omega, by omega⟩) ?_
          refine x_nh (fun s17 e_s17 => ?_)
          have hG_s17 : GI s17 := by rw [e_s17]; exact hG_s14.up (show (-1) ≤ z8 ∧ z8 ≤ 9 from (by first | exact x_rbe e_z8 g_z8 rfl rfl | exact x_rb g_z8 rfl rfl | exact ⟨by omega, by omega⟩))
          have f_s17 : FL [192, 256, 3276, 3277] s0 s17 := by rw [e_s17]; exact f_s14.up (show 192 ∈ [192, 256, 3276, 3277] from by decide +kernel)
          have q18 : s17 1 4 = z1 := by rw [e_s17, x_up_q (by decide)]; exact q15
          have q19 : s17 0 10 = z8 := by rw [e_s17, x_up_q (by decide)]; exact q16
          have q20 : s17 3 a.toNat = z8 := by rw [e_s17]; exact x_up_same
          refine x_A k94_103 (fun _ => rfl) ?_
          refine x_getR k94_104 (f := 0) rfl (q := 0) (n := 12) (kd := 3) ⟨by decide, rfl⟩ (q2 := 1) (by decide) rfl ?_
          refine x_getR k94_107 (f := 2) rfl (q := 1) (n := 5) (kd := 4) ⟨by decide, rfl⟩ (q2 := 4) (by decide) rfl ?_
          refine x_A k94_110 (fun _ => rfl) ?_
          refine x_A k94_111 (fun _ => rfl) ?_
          refine x_iast k94_112 (q := 4) (n := 40) ⟨by decide, rfl⟩ (by decide) (by first | exact x_rbl b_a rfl rfl | exact ⟨by omega, by omega⟩) ?_
          refine x_nh (fun s21 e_s21 => ?_)
          have hG_s21 : GI s21 := by rw [e_s21]; exact hG_s17.up (show (-1) ≤ b ∧ b ≤ 39 from (by first | exact x_rb b_b rfl rfl | exact ⟨by omega, by omega⟩))
          have f_s21 : FL [192, 256, 3276, 3277] s0 s21 := by rw [e_s21]; exact f_s17.up (show 256 ∈ [192, 256, 3276, 3277] from by decide +kernel)
          have q22 : s21 1 4 = z1 := by rw [e_s21, x_up_q (by decide)]; exact q18
          have q23 : s21 0 10 = z8 := by rw [e_s21, x_up_q (by decide)]; exact q19
          have q24 : s21 3 a.toNat = z8 := by rw [e_s21, x_up_q (by first | decide | omega)]; exact q20
          have q25 : s21 4 a.toNat = b := by rw [e_s21]; exact x_up_same
          refine x_A k94_113 (fun _ => rfl) ?_
          refine x_getR k94_114 (f := 0) rfl (q := 0) (n := 12) (kd := 3) ⟨by decide, rfl⟩ (q2 := 1) (by decide) rfl ?_
          refine x_A k94_117 (fun _ => rfl) ?_
          refine x_A k94_118 (fun _ => rfl) ?_
          refine x_getI k94_119 (f := 10) rfl (q := 0) (n := 12) (kd := 3) ⟨by decide, rfl⟩ (by decide) rfl ?_
          rw [q23]
          refine x_callV k94_122 (y := 67) (n := 2) (w0 := 0) (w1 := 2) (as := [vi a, vi z8]) (rest := []) (by decide +kernel) (q := 1) (nq := 5) (kq := 4) ⟨by decide, rfl⟩ rfl rfl rfl rfl (xe_mono (C_X7_countBelow_1 s21 hG_s21 a (by first | exact x_rb b_a rfl rfl | exact ⟨by omega, by omega⟩) z8 (by first | exact x_rbe e_z8 g_z8 rfl rfl | exact x_rb g_z8 rfl rfl | exact ⟨by omega, by omega⟩)) ?_)
          rintro s27 v ⟨-, t_s27, z26, rfl, g_z26⟩
          rw [t_s27.nil]
          show xe none 94 125 [(0, .ref 0), (1, vi a), (2, vi b)] [vi z26] s21 0 0 _
          refine x_A k94_125 (fun _ => rfl) ?_
          refine x_isub k94_126 ?_
          refine x_top (fun z28 e_z28 => ?_)
          exact x_iret k94_127 rfl ⟨hG_s21, f_s21, z28, rfl, (by first | exact x_rbe e_z28 g_z28 rfl rfl | exact x_rb g_z28 rfl rfl | exact ⟨by omega, by omega⟩)⟩
        · rw [e_z9]
          show xe none 94 52 [(0, .ref 0), (1, vi a), (2, vi b)] [vi 0] s0 0 0 _
          refine x_if_ne k94_52 (t := 59) rfl ⟨by decide, by decide⟩ (fun c29 => by exfalso; omega) (fun c29 => ?_)
          refine x_sipush k94_55 (by decide +kernel) ?_
          exact x_iret k94_58 rfl ⟨hG0, f0, (-1003), rfl, ⟨by decide, by decide⟩⟩
    · skip
      refine x_A k94_16 (fun _ => rfl) ?_
      refine x_getR k94_17 (f := 0) rfl (q := 0) (n := 12) (kd := 3) ⟨by decide, rfl⟩ (q2 := 1) (by decide) rfl ?_
      refine x_A k94_20 (fun _ => rfl) ?_
      refine x_callV k94_21 (y := 59) (n := 1) (w0 := 0) (w1 := 1) (as := [vi b]) (rest := []) (by decide +kernel) (q := 1) (nq := 5) (kq := 4) ⟨by decide, rfl⟩ rfl rfl rfl rfl (xe_mono (C_X7_has_1 s0 hG0 b (by first | exact x_rb b_b rfl rfl | exact ⟨by omega, by omega⟩)) ?_)
      rintro s31 v ⟨h_s31, z30, rfl, hz_z30⟩
      rw [h_s31]
      rcases hz_z30 with ⟨c_z30, e_z30⟩ | ⟨c_z30, e_z30⟩
      · rw [e_z30]
        show xe none 94 24 [(0, .ref 0), (1, vi a), (2, vi b)] [vi 1] s0 0 0 _
        refine x_if_ne k94_24 (t := 31) rfl ⟨by decide, by decide⟩ (fun c32 => ?_) (fun c32 => by exfalso; omega)
        refine x_A k94_31 (fun _ => rfl) ?_
        refine x_if_eq k94_32 (t := 55) rfl (by first | exact x_rb b_a rfl rfl | exact ⟨by omega, by omega⟩) (fun c33 => ?_) (fun c33 => ?_)
        · skip
          refine x_sipush k94_55 (by decide +kernel) ?_
          exact x_iret k94_58 rfl ⟨hG0, f0, (-1003), rfl, ⟨by decide, by decide⟩⟩
        · skip
          refine x_A k94_35 (fun _ => rfl) ?_
          refine x_A k94_36 (fun _ => rfl) ?_
          refine x_ic_eq k94_37 (t := 55) rfl (by first | exact x_rb b_a rfl rfl | exact ⟨by omega, by omega⟩) (by first | exact x_rb b_b rfl rfl | exact ⟨by omega, by omega⟩) (fun c34 => ?_) (fun c34 => ?_)
          · skip
            refine x_sipush k94_55 (by decide +kernel) ?_
            exact x_iret k94_58 rfl ⟨hG0, f0, (-1003), rfl, ⟨by decide, by decide⟩⟩
          · skip
            refine x_A k94_40 (fun _ => rfl) ?_
            refine x_getR k94_41 (f := 0) rfl (q := 0) (n := 12) (kd := 3) ⟨by decide, rfl⟩ (q2 := 1) (by decide) rfl ?_
            refine x_A k94_44 (fun _ => rfl) ?_
            refine x_A k94_45 (fun _ => rfl) ?_
            refine x_getI k94_46 (f := 10) rfl (q := 0) (n := 12) (kd := 3) ⟨by decide, rfl⟩ (by decide) rfl ?_
            refine x_top (fun z35 e_z35 => ?_)
            have g_z35 : (0 : Int) ≤ s0 0 10 ∧ s0 0 10 ≤ 9 := hG0 0 10
            refine x_callV k94_49 (y := 64) (n := 2) (w0 := 0) (w1 := 2) (as := [vi a, vi z35]) (rest := []) (by decide +kernel) (q := 1) (nq := 5) (kq := 4) ⟨by decide, rfl⟩ rfl rfl rfl rfl (xe_mono (C_X7_isThere_1 s0 hG0 a (by first | exact x_rb b_a rfl rfl | exact ⟨by omega, by omega⟩) z35 (by first | exact x_rbe e_z35 g_z35 rfl rfl | exact x_rb g_z35 rfl rfl | exact ⟨by omega, by omega⟩)) ?_)
            rintro s37 v ⟨h_s37, z36, rfl, hz_z36⟩
            rw [h_s37]
            rcases hz_z36 with ⟨c_z36, e_z36⟩ | e_z36
            · rw [e_z36]
              show xe none 94 52 [(0, .ref 0), (1, vi a), (2, vi b)] [vi 1] s0 0 0 _
              refine x_if_ne k94_52 (t := 59) rfl ⟨by decide, by decide⟩ (fun c38 => ?_) (fun c38 => by exfalso; omega)
              refine x_A k94_59 (fun _ => rfl) ?_
              refine x_A k94_60 (fun _ => rfl) ?_
              refine x_ic_eq k94_61 (t := 83) rfl (by first | exact x_rb b_b rfl rfl | exact ⟨by omega, by omega⟩) ⟨by decide, by decide⟩ (fun c39 => by exfalso; omega) (fun c39 => ?_)
              refine x_A k94_64 (fun _ => rfl) ?_
              refine x_getR k94_65 (f := 0) rfl (q := 0) (n := 12) (kd := 3) ⟨by decide, rfl⟩ (q2 := 1) (by decide) rfl ?_
              refine x_A k94_68 (fun _ => rfl) ?_
              refine x_A k94_69 (fun _ => rfl) ?_
              refine x_getI k94_70 (f := 10) rfl (q := 0) (n := 12) (kd := 3) ⟨by decide, rfl⟩ (by decide) rfl ?_
              rw [e_z35.symm]
              refine x_callV k94_73 (y := 64) (n := 2) (w0 := 0) (w1 := 2) (as := [vi b, vi z35]) (rest := []) (by decide +kernel) (q := 1) (nq := 5) (kq := 4) ⟨by decide, rfl⟩ rfl rfl rfl rfl (xe_mono (C_X7_isThere_1 s0 hG0 b (by first | exact x_rb b_b rfl rfl | exact ⟨by omega, by omega⟩) z35 (by first | exact x_rbe e_z35 g_z35 rfl rfl | exact x_rb g_z35 rfl rfl | exact ⟨by omega, by omega⟩)) ?_)
              rintro s41 v ⟨h_s41, z40, rfl, hz_z40⟩
              rw [h_s41]
              rcases hz_z40 with ⟨c_z40, e_z40⟩ | e_z40
              · rw [e_z40]
                show xe none 94 76 [(0, .ref 0), (1, vi a), (2, vi b)] [vi 1] s0 0 0 _
                refine x_if_ne k94_76 (t := 83) rfl ⟨by decide, by decide⟩ (fun c42 => ?_) (fun c42 => by exfalso; omega)
                refine x_A k94_83 (fun _ => rfl) ?_
                refine x_getR k94_84 (f := 9) rfl (q := 0) (n := 12) (kd := 3) ⟨by decide, rfl⟩ (q2 := 243) (by decide) rfl ?_
                refine x_callV k94_87 (y := 73) (n := 0) (w0 := 0) (w1 := 0) (as := []) (rest := []) (by decide +kernel) (q := 243) (nq := 13) (kq := 13) ⟨by decide, rfl⟩ rfl rfl rfl rfl (xe_mono (C_X8_forget_243 s0 hG0) ?_)
                rintro s44 v ⟨hG_s44, t_s44, rfl⟩
                have f_s44 : FL [192, 256, 3276, 3277] s0 s44 := f0.tr t_s44 (by decide +kernel)
                have q45 : s44 1 4 = z1 := (t_s44 1 4 (show 69 ∉ [3276, 3277] from by decide +kernel)).trans e_z1.symm
                have q46 : s44 0 10 = z35 := (t_s44 0 10 (show 11 ∉ [3276, 3277] from by decide +kernel)).trans e_z35.symm
                show xe none 94 90 [(0, .ref 0), (1, vi a), (2, vi b)] [] s44 0 0 _
                refine x_A k94_90 (fun _ => rfl) ?_
                refine x_getR k94_91 (f := 0) rfl (q := 0) (n := 12) (kd := 3) ⟨by decide, rfl⟩ (q2 := 1) (by decide) rfl ?_
                refine x_getR k94_94 (f := 1) rfl (q := 1) (n := 5) (kd := 4) ⟨by decide, rfl⟩ (q2 := 3) (by decide) rfl ?_
                refine x_A k94_97 (fun _ => rfl) ?_
                refine x_A k94_98 (fun _ => rfl) ?_
                refine x_getI k94_99 (f := 10) rfl (q := 0) (n := 12) (kd := 3) ⟨by decide, rfl⟩ (by decide) rfl ?_
                rw [q46]
                refine x_iast k94_102 (q := 3) (n := 40) ⟨by decide, rfl⟩ (by decide) (by first | exact x_rbl b_a rfl rfl | exact ⟨by omega, by omega⟩) ?_
                refine x_nh (fun s47 e_s47 => ?_)
                have hG_s47 : GI s47 := by rw [e_s47]; exact hG_s44.up (show (-1) ≤ z35 ∧ z35 ≤ 9 from (by first | exact x_rbe e_z35 g_z35 rfl rfl | exact x_rb g_z35 rfl rfl | exact ⟨by omega, by omega⟩))
                have f_s47 : FL [192, 256, 3276, 3277] s0 s47 := by rw [e_s47]; exact f_s44.up (show 192 ∈ [192, 256, 3276, 3277] from by decide +kernel)
                have q48 : s47 1 4 = z1 := by rw [e_s47, x_up_q (by decide)]; exact q45
                have q49 : s47 0 10 = z35 := by rw [e_s47, x_up_q (by decide)]; exact q46
                have q50 : s47 3 a.toNat = z35 := by rw [e_s47]; exact x_up_same
                refine x_A k94_103 (fun _ => rfl) ?_
                refine x_getR k94_104 (f := 0) rfl (q := 0) (n := 12) (kd := 3) ⟨by decide, rfl⟩ (q2 := 1) (by decide) rfl ?_
                refine x_getR k94_107 (f := 2) rfl (q := 1) (n := 5) (kd := 4) ⟨by decide, rfl⟩ (q2 := 4) (by decide) rfl ?_
                refine x_A k94_110 (fun _ => rfl) ?_
                refine x_A k94_111 (fun _ => rfl) ?_
                refine x_iast k94_112 (q := 4) (n := 40) ⟨by decide, rfl⟩ (by decide) (by first | exact x_rbl b_a rfl rfl | exact ⟨by omega, by omega⟩) ?_
                refine x_nh (fun s51 e_s51 => ?_)
                have hG_s51 : GI s51 := by rw [e_s51]; exact hG_s47.up (show (-1) ≤ b ∧ b ≤ 39 from (by first | exact x_rb b_b rfl rfl | exact ⟨by omega, by omega⟩))
                have f_s51 : FL [192, 256, 3276, 3277] s0 s51 := by rw [e_s51]; exact f_s47.up (show 256 ∈ [192, 256, 3276, 3277] from by decide +kernel)
                have q52 : s51 1 4 = z1 := by rw [e_s51, x_up_q (by decide)]; exact q48
                have q53 : s51 0 10 = z35 := by rw [e_s51, x_up_q (by decide)]; exact q49
                have q54 : s51 3 a.toNat = z35 := by rw [e_s51, x_up_q (by first | decide | omega)]; exact q50
                have q55 : s51 4 a.toNat = b := by rw [e_s51]; exact x_up_same
                refine x_A k94_113 (fun _ => rfl) ?_
                refine x_getR k94_114 (f := 0) rfl (q := 0) (n := 12) (kd := 3) ⟨by decide, rfl⟩ (q2 := 1) (by decide) rfl ?_
                refine x_A k94_117 (fun _ => rfl) ?_
                refine x_A k94_118 (fun _ => rfl) ?_
                refine x_getI k94_119 (f := 10) rfl (q := 0) (n := 12) (kd := 3) ⟨by decide, rfl⟩ (by decide) rfl ?_
                rw [q53]
                refine x_callV k94_122 (y := 67) (n := 2) (w0 := 0) (w1 := 2) (as := [vi a, vi z35]) (rest := []) (by decide +kernel) (q := 1) (nq := 5) (kq := 4) ⟨by decide, rfl⟩ rfl rfl rfl rfl (xe_mono (C_X7_countBelow_1 s51 hG_s51 a (by first | exact x_rb b_a rfl rfl | exact ⟨by omega, by omega⟩) z35 (by first | exact x_rbe e_z35 g_z35 rfl rfl | exact x_rb g_z35 rfl rfl | exact ⟨by omega, by omega⟩)) ?_)
                rintro s57 v ⟨-, t_s57, z56, rfl, g_z56⟩
                rw [t_s57.nil]
                show xe none 94 125 [(0, .ref 0), (1, vi a), (2, vi b)] [vi z56] s51 0 0 _
                refine x_A k94_125 (fun _ => rfl) ?_
                refine x_isub k94_126 ?_
                refine x_top (fun z58 e_z58 => ?_)
                exact x_iret k94_127 rfl ⟨hG_s51, f_s51, z58, rfl, (by first | exact x_rbe e_z58 g_z58 rfl rfl | exact x_rb g_z58 rfl rfl | exact ⟨by omega, by omega⟩)⟩
              · rw [e_z40]
                show xe none 94 76 [(0, .ref 0), (1, vi a), (2, vi b)] [vi 0] s0 0 0 _
                refine x_if_ne k94_76 (t := 83) rfl ⟨by decide, by decide⟩ (fun c59 => by exfalso; omega) (fun c59 => ?_)
                refine x_sipush k94_79 (by decide +kernel) ?_
                exact x_iret k94_82 rfl ⟨hG0, f0, (-1003), rfl, ⟨by decide, by decide⟩⟩
            · rw [e_z36]
              show xe none 94 52 [(0, .ref 0), (1, vi a), (2, vi b)] [vi 0] s0 0 0 _
              refine x_if_ne k94_52 (t := 59) rfl ⟨by decide, by decide⟩ (fun c60 => by exfalso; omega) (fun c60 => ?_)
              refine x_sipush k94_55 (by decide +kernel) ?_
              exact x_iret k94_58 rfl ⟨hG0, f0, (-1003), rfl, ⟨by decide, by decide⟩⟩
      · rw [e_z30]
        show xe none 94 24 [(0, .ref 0), (1, vi a), (2, vi b)] [vi 0] s0 0 0 _
        refine x_if_ne k94_24 (t := 31) rfl ⟨by decide, by decide⟩ (fun c61 => by exfalso; omega) (fun c61 => ?_)
        refine x_sipush k94_27 (by decide +kernel) ?_
        exact x_iret k94_30 rfl ⟨hG0, f0, (-1001), rfl, ⟨by decide, by decide⟩⟩
  · rw [e_z2]
    show xe none 94 8 [(0, .ref 0), (1, vi a), (2, vi b)] [vi 0] s0 0 0 _
    refine x_if_eq k94_8 (t := 27) rfl ⟨by decide, by decide⟩ (fun c62 => ?_) (fun c62 => by exfalso; omega)
    refine x_sipush k94_27 (by decide +kernel) ?_
    exact x_iret k94_30 rfl ⟨hG0, f0, (-1001), rfl, ⟨by decide, by decide⟩⟩
theorem C_X10_isApart_0 (s0 : xS) (hG0 : GI s0) (a : Int) (b_a : (-2147483648) ≤ a ∧ a ≤ 2147483647) (b : Int) (b_b : (-2147483648) ≤ b ∧ b ≤ 2147483647) (d : Int) (b_d : (-2147483648) ≤ d ∧ d ≤ 2147483647) : xe none 131 0 (lv_args 0 [.ref 0, vi a, vi b, vi d]) [] s0 0 0 (fun s' v => GI s' ∧ FL [] s0 s' ∧ ∃ z, v = some (vi z) ∧ (0 ≤ z ∧ z ≤ 1)) := by
  have f0 : FL [] s0 s0 := FL.rf
  show xe none 131 0 [(0, .ref 0), (1, vi a), (2, vi b), (3, vi d)] [] s0 0 0 _
  refine x_A k131_0 (fun _ => rfl) ?_
  refine x_getR k131_1 (f := 0) rfl (q := 0) (n := 12) (kd := 3) ⟨by decide, rfl⟩ (q2 := 1) (by decide) rfl ?_
  refine x_A k131_4 (fun _ => rfl) ?_
  refine x_A k131_5 (fun _ => rfl) ?_
  obtain ⟨z1, e_z1⟩ : ∃ z, z = s0 1 4 := ⟨_, rfl⟩
  have g_z1 : (1 : Int) ≤ s0 1 4 ∧ s0 1 4 ≤ 40 := hG0 1 4
  refine x_callV k131_6 (y := 64) (n := 2) (w0 := 0) (w1 := 2) (as := [vi a, vi d]) (rest := []) (by decide +kernel) (q := 1) (nq := 5) (kq := 4) ⟨by decide, rfl⟩ rfl rfl rfl rfl (xe_mono (C_X7_isThere_1 s0 hG0 a (by first | exact x_rb b_a rfl rfl | exact ⟨by omega, by omega⟩) d (by first | exact x_rb b_d rfl rfl | exact ⟨by omega, by omega⟩)) ?_)
  rintro s3 v ⟨h_s3, z2, rfl, hz_z2⟩
  rw [h_s3]
  rcases hz_z2 with ⟨c_z2, e_z2⟩ | e_z2
  · rw [e_z2]
    show xe none 131 9 [(0, .ref 0), (1, vi a), (2, vi b), (3, vi d)] [vi 1] s0 0 0 _
    refine x_if_eq k131_9 (t := 42) rfl ⟨by decide, by decide⟩ (fun c4 => by exfalso; omega) (fun c4 => ?_)
    refine x_A k131_12 (fun _ => rfl) ?_
    refine x_getR k131_13 (f := 0) rfl (q := 0) (n := 12) (kd := 3) ⟨by decide, rfl⟩ (q2 := 1) (by decide) rfl ?_
    refine x_A k131_16 (fun _ => rfl) ?_
    refine x_A k131_17 (fun _ => rfl) ?_
    refine x_A k131_18 (fun _ => rfl) ?_
    refine x_callV k131_19 (y := 66) (n := 3) (w0 := 0) (w1 := 3) (as := [vi a, vi b, vi d]) (rest := []) (by decide +kernel) (q := 1) (nq := 5) (kq := 4) ⟨by decide, rfl⟩ rfl rfl rfl rfl (xe_mono (C_X7_isBelow_1 s0 hG0 a (by first | exact x_rb b_a rfl rfl | exact ⟨by omega, by omega⟩) b (by first | exact x_rb b_b rfl rfl | exact ⟨by omega, by omega⟩) d (by first | exact x_rb b_d rfl rfl | exact ⟨by omega, by omega⟩)) ?_)
    rintro s6 v ⟨h_s6, z5, rfl, hz_z5⟩
    rw [h_s6]
    rcases hz_z5 with ⟨c_z5, e_z5⟩ | e_z5
    · rw [e_z5]
      show xe none 131 22 [(0, .ref 0), (1, vi a), (2, vi b), (3, vi d)] [vi 1] s0 0 0 _
      refine x_if_ne k131_22 (t := 42) rfl ⟨by decide, by decide⟩ (fun c7 => ?_) (fun c7 => by exfalso; omega)
      refine x_A k131_42 (fun _ => rfl) ?_
      exact x_zret k131_43 rfl ⟨by omega, by omega⟩ ⟨hG0, f0, 0, rfl, ⟨by decide, by decide⟩⟩
    · rw [e_z5]
      show xe none 131 22 [(0, .ref 0), (1, vi a), (2, vi b), (3, vi d)] [vi 0] s0 0 0 _
      refine x_if_ne k131_22 (t := 42) rfl ⟨by decide, by decide⟩ (fun c8 => by exfalso; omega) (fun c8 => ?_)
      refine x_A k131_25 (fun _ => rfl) ?_
      refine x_getR k131_26 (f := 0) rfl (q := 0) (n := 12) (kd := 3) ⟨by decide, rfl⟩ (q2 := 1) (by decide) rfl ?_
      refine x_A k131_29 (fun _ => rfl) ?_
      refine x_A k131_30 (fun _ => rfl) ?_
      refine x_A k131_31 (fun _ => rfl) ?_
      refine x_callV k131_32 (y := 66) (n := 3) (w0 := 0) (w1 := 3) (as := [vi b, vi a, vi d]) (rest := []) (by decide +kernel) (q := 1) (nq := 5) (kq := 4) ⟨by decide, rfl⟩ rfl rfl rfl rfl (xe_mono (C_X7_isBelow_1 s0 hG0 b (by first | exact x_rb b_b rfl rfl | exact ⟨by omega, by omega⟩) a (by first | exact x_rb b_a rfl rfl | exact ⟨by omega, by omega⟩) d (by first | exact x_rb b_d rfl rfl | exact ⟨by omega, by omega⟩)) ?_)
      rintro s10 v ⟨h_s10, z9, rfl, hz_z9⟩
      rw [h_s10]
      rcases hz_z9 with ⟨c_z9, e_z9⟩ | e_z9
      · rw [e_z9]
        show xe none 131 35 [(0, .ref 0), (1, vi a), (2, vi b), (3, vi d)] [vi 1] s0 0 0 _
        refine x_if_ne k131_35 (t := 42) rfl ⟨by decide, by decide⟩ (fun c11 => ?_) (fun c11 => by exfalso; omega)
        refine x_A k131_42 (fun _ => rfl) ?_
        exact x_zret k131_43 rfl ⟨by omega, by omega⟩ ⟨hG0, f0, 0, rfl, ⟨by decide, by decide⟩⟩
      · rw [e_z9]
        show xe none 131 35 [(0, .ref 0), (1, vi a), (2, vi b), (3, vi d)] [vi 0] s0 0 0 _
        refine x_if_ne k131_35 (t := 42) rfl ⟨by decide, by decide⟩ (fun c12 => by exfalso; omega) (fun c12 => ?_)
        refine x_A k131_38 (fun _ => rfl) ?_
        refine x_goto k131_39 (t := 43) rfl ?_
        exact x_zret k131_43 rfl ⟨by omega, by omega⟩ ⟨hG0, f0, 1, rfl, ⟨by decide, by decide⟩⟩
  · rw [e_z2]
    show xe none 131 9 [(0, .ref 0), (1, vi a), (2, vi b), (3, vi d)] [vi 0] s0 0 0 _
    refine x_if_eq k131_9 (t := 42) rfl ⟨by decide, by decide⟩ (fun c13 => ?_) (fun c13 => by exfalso; omega)
    refine x_A k131_42 (fun _ => rfl) ?_
    exact x_zret k131_43 rfl ⟨by omega, by omega⟩ ⟨hG0, f0, 0, rfl, ⟨by decide, by decide⟩⟩
theorem L_C_X10_goingAlong_0_15 (s0 : xS)   : ∀ (n : Nat) (s : xS) (x1 : Int) (x2 : Int) (x3 : Int) (x5 : Int) (x7 : Int) (hG : GI s) (f : FL [] s0 s) (b_x1 : (-2147483648) ≤ x1 ∧ x1 ≤ 2147483647) (b_x2 : (-2147483648) ≤ x2 ∧ x2 ≤ 2147483647) (b_x3 : in64 x3) (b_x5 : in64 x5) (b_x7 : 0 ≤ x7 ∧ x7 ≤ 40)  (hm : (40 - x7) < (n : Int)), xe none 132 15 [(0, .ref 0), (1, vi x1), (2, vi x2), (3, vj x3), (5, vj x5), (7, vi x7)] [] s 0 0 (fun s' v => GI s' ∧ FL [] s0 s' ∧ ∃ z, v = some (vj z) ∧ in64 z) := by
  intro n
  induction n with
  | zero => intro s x1 x2 x3 x5 x7 hG f b_x1 b_x2 b_x3 b_x5 b_x7  hm; exfalso; omega
  | succ n ih =>
    intro s x1 x2 x3 x5 x7 hG f b_x1 b_x2 b_x3 b_x5 b_x7  hm
    refine x_A k132_15 (fun _ => rfl) ?_
    refine x_A k132_17 (fun _ => rfl) ?_
    refine x_getR k132_18 (f := 0) rfl (q := 0) (n := 12) (kd := 3) ⟨by decide, rfl⟩ (q2 := 1) (by decide) rfl ?_
    refine x_getI k132_21 (f := 4) rfl (q := 1) (n := 5) (kd := 4) ⟨by decide, rfl⟩ (by decide) rfl ?_
    refine x_top (fun z209 e_z209 => ?_)
    have g_z209 : (1 : Int) ≤ s 1 4 ∧ s 1 4 ≤ 40 := hG 1 4
    refine x_ic_ge k132_24 (t := 79) rfl (by first | exact x_rb b_x7 rfl rfl | exact ⟨by omega, by omega⟩) (by first | exact x_rbe e_z209 g_z209 rfl rfl | exact x_rb g_z209 rfl rfl | exact ⟨by omega, by omega⟩) (fun c210 => ?_) (fun c210 => ?_)
    · skip
      refine x_A k132_79 (fun _ => rfl) ?_
      exact x_lret k132_81 rfl ⟨hG, f, x5, rfl, b_x5⟩
    · skip
      refine x_A k132_27 (fun _ => rfl) ?_
      refine x_A k132_28 (fun _ => rfl) ?_
      refine x_A k132_30 (fun _ => rfl) ?_
      refine x_A k132_31 (fun _ => rfl) ?_
      refine x_callV k132_32 (y := 131) (n := 3) (w0 := 0) (w1 := 3) (as := [vi x7, vi x1, vi x2]) (rest := []) (by decide +kernel) (q := 0) (nq := 12) (kq := 3) ⟨by decide, rfl⟩ rfl rfl rfl rfl (xe_mono (C_X10_isApart_0 s hG x7 (by first | exact x_rb b_x7 rfl rfl | exact ⟨by omega, by omega⟩) x1 (by first | exact x_rb b_x1 rfl rfl | exact ⟨by omega, by omega⟩) x2 (by first | exact x_rb b_x2 rfl rfl | exact ⟨by omega, by omega⟩)) ?_)
      rintro s212 v ⟨-, t_s212, z211, rfl, g_z211⟩
      rw [t_s212.nil]
      show xe none 132 35 [(0, .ref 0), (1, vi x1), (2, vi x2), (3, vj x3), (5, vj x5), (7, vi x7)] [vi z211] s 0 0 _
      refine x_if_ne k132_35 (t := 41) rfl (by first | exact x_rbe e_z211 g_z211 rfl rfl | exact x_rb g_z211 rfl rfl | exact ⟨by omega, by omega⟩) (fun c213 => ?_) (fun c213 => ?_)
      · skip
        refine x_A k132_41 (fun _ => rfl) ?_
        refine x_A k132_42 (fun _ => rfl) ?_
        refine x_getR k132_43 (f := 9) rfl (q := 0) (n := 12) (kd := 3) ⟨by decide, rfl⟩ (q2 := 243) (by decide) rfl ?_
        refine x_A k132_46 (fun _ => rfl) ?_
        refine x_callV k132_48 (y := 79) (n := 1) (w0 := 2) (w1 := 1) (as := [vi x7]) (rest := [vj x3]) (by decide +kernel) (q := 243) (nq := 13) (kq := 13) ⟨by decide, rfl⟩ rfl rfl rfl rfl (xe_mono (C_X8_showing_243 s hG x7 (by first | exact x_rb b_x7 rfl rfl | exact ⟨by omega, by omega⟩)) ?_)
        rintro s215 v ⟨-, t_s215, z214, rfl, b_z214⟩
        rw [t_s215.nil]
        show xe none 132 51 [(0, .ref 0), (1, vi x1), (2, vi x2), (3, vj x3), (5, vj x5), (7, vi x7)] [vj z214, vj x3] s 0 0 _
        refine x_A k132_51 (fun _ => rfl) ?_
        refine x_getR k132_52 (f := 1) rfl (q := 0) (n := 12) (kd := 3) ⟨by decide, rfl⟩ (q2 := 46) (by decide) rfl ?_
        refine x_getI k132_55 (f := 3) rfl (q := 46) (n := 4) (kd := 5) ⟨by decide, rfl⟩ (by decide) rfl ?_
        refine x_top (fun z216 e_z216 => ?_)
        have g_z216 : (0 : Int) ≤ s 46 3 ∧ s 46 3 ≤ 40 := hG 46 3
        refine x_callS k132_58 (y := 130) (n := 3) (w0 := 0) (w1 := 5) (as := [vj x3, vj z214, vi z216]) (rest := []) (by decide +kernel) rfl rfl rfl rfl (xe_mono (C_X10_isBeyondChance s hG x3 b_x3 z214 b_z214 z216 (by first | exact x_rbe e_z216 g_z216 rfl rfl | exact x_rb g_z216 rfl rfl | exact ⟨by omega, by omega⟩)) ?_)
        rintro s218 v ⟨-, t_s218, z217, rfl, g_z217⟩
        rw [t_s218.nil]
        show xe none 132 61 [(0, .ref 0), (1, vi x1), (2, vi x2), (3, vj x3), (5, vj x5), (7, vi x7)] [vi z217] s 0 0 _
        refine x_if_eq k132_61 (t := 73) rfl (by first | exact x_rbe e_z217 g_z217 rfl rfl | exact x_rb g_z217 rfl rfl | exact ⟨by omega, by omega⟩) (fun c219 => ?_) (fun c219 => ?_)
        · skip
          refine x_iinc k132_73 (ls' := [(7, vi (x7 + 1)), (0, .ref 0), (1, vi x1), (2, vi x2), (3, vj x3), (5, vj x5)]) rfl (by decide) rfl ?_
          refine x_goto k132_76 (t := 15) rfl ?_
          refine x_ls (l := [(0, .ref 0), (1, vi x1), (2, vi x2), (3, vj x3), (5, vj x5), (7, vi (x7 + 1))]) (show ([0, 1, 2, 3, 5, 7] : List Nat).Nodup from by decide +kernel) ⟨rfl, rfl, rfl, rfl, rfl, rfl, trivial⟩ ?_
          exact ih s x1 x2 x3 x5 (x7 + 1) hG f (by first | exact x_rb b_x1 rfl rfl | exact ⟨by omega, by omega⟩) (by first | exact x_rb b_x2 rfl rfl | exact ⟨by omega, by omega⟩) b_x3 b_x5 ⟨by omega, by omega⟩  (by omega)
        · skip
          refine x_A k132_64 (fun _ => rfl) ?_
          refine x_lconst k132_66 (z := 1) (by decide +kernel) ?_
          refine x_A k132_67 (fun _ => rfl) ?_
          refine x_lshl_any k132_69 (fun z220 b_z220 => ?_)
          refine x_lor_any k132_70 (fun z221 b_z221 => ?_)
          refine x_lstore k132_71 (ls' := [(5, vj z221), (0, .ref 0), (1, vi x1), (2, vi x2), (3, vj x3), (7, vi x7)]) (by decide) rfl ?_
          refine x_iinc k132_73 (ls' := [(7, vi (x7 + 1)), (5, vj z221), (0, .ref 0), (1, vi x1), (2, vi x2), (3, vj x3)]) rfl (by decide) rfl ?_
          refine x_goto k132_76 (t := 15) rfl ?_
          refine x_ls (l := [(0, .ref 0), (1, vi x1), (2, vi x2), (3, vj x3), (5, vj z221), (7, vi (x7 + 1))]) (show ([0, 1, 2, 3, 5, 7] : List Nat).Nodup from by decide +kernel) ⟨rfl, rfl, rfl, rfl, rfl, rfl, trivial⟩ ?_
          exact ih s x1 x2 x3 z221 (x7 + 1) hG f (by first | exact x_rb b_x1 rfl rfl | exact ⟨by omega, by omega⟩) (by first | exact x_rb b_x2 rfl rfl | exact ⟨by omega, by omega⟩) b_x3 b_z221 ⟨by omega, by omega⟩  (by omega)
      · skip
        refine x_goto k132_38 (t := 73) rfl ?_
        refine x_iinc k132_73 (ls' := [(7, vi (x7 + 1)), (0, .ref 0), (1, vi x1), (2, vi x2), (3, vj x3), (5, vj x5)]) rfl (by decide) rfl ?_
        refine x_goto k132_76 (t := 15) rfl ?_
        refine x_ls (l := [(0, .ref 0), (1, vi x1), (2, vi x2), (3, vj x3), (5, vj x5), (7, vi (x7 + 1))]) (show ([0, 1, 2, 3, 5, 7] : List Nat).Nodup from by decide +kernel) ⟨rfl, rfl, rfl, rfl, rfl, rfl, trivial⟩ ?_
        exact ih s x1 x2 x3 x5 (x7 + 1) hG f (by first | exact x_rb b_x1 rfl rfl | exact ⟨by omega, by omega⟩) (by first | exact x_rb b_x2 rfl rfl | exact ⟨by omega, by omega⟩) b_x3 b_x5 ⟨by omega, by omega⟩  (by omega)
theorem C_X10_goingAlong_0 (s0 : xS) (hG0 : GI s0) (a : Int) (b_a : (-2147483648) ≤ a ∧ a ≤ 2147483647) (b : Int) (b_b : (-2147483648) ≤ b ∧ b ≤ 2147483647) : xe none 132 0 (lv_args 0 [.ref 0, vi a, vi b]) [] s0 0 0 (fun s' v => GI s' ∧ FL [] s0 s' ∧ ∃ z, v = some (vj z) ∧ in64 z) := by
  have f0 : FL [] s0 s0 := FL.rf
  show xe none 132 0 [(0, .ref 0), (1, vi a), (2, vi b)] [] s0 0 0 _
  refine x_A k132_0 (fun _ => rfl) ?_
  refine x_getR k132_1 (f := 9) rfl (q := 0) (n := 12) (kd := 3) ⟨by decide, rfl⟩ (q2 := 243) (by decide) rfl ?_
  refine x_A k132_4 (fun _ => rfl) ?_
  refine x_callV k132_5 (y := 79) (n := 1) (w0 := 0) (w1 := 1) (as := [vi a]) (rest := []) (by decide +kernel) (q := 243) (nq := 13) (kq := 13) ⟨by decide, rfl⟩ rfl rfl rfl rfl (xe_mono (C_X8_showing_243 s0 hG0 a (by first | exact x_rb b_a rfl rfl | exact ⟨by omega, by omega⟩)) ?_)
  rintro s223 v ⟨-, t_s223, z222, rfl, b_z222⟩
  rw [t_s223.nil]
  show xe none 132 8 [(0, .ref 0), (1, vi a), (2, vi b)] [vj z222] s0 0 0 _
  refine x_lstore_n k132_8 (ls' := [(3, vj z222), (0, .ref 0), (1, vi a), (2, vi b)]) (by decide) rfl ?_
  refine x_lconst k132_9 (z := 0) (by decide +kernel) ?_
  refine x_lstore k132_10 (ls' := [(5, vj 0), (3, vj z222), (0, .ref 0), (1, vi a), (2, vi b)]) (by decide) rfl ?_
  refine x_A k132_12 (fun _ => rfl) ?_
  refine x_istore k132_13 (ls' := [(7, vi 0), (5, vj 0), (3, vj z222), (0, .ref 0), (1, vi a), (2, vi b)]) (by decide) rfl ?_
  refine x_ls (l := [(0, .ref 0), (1, vi a), (2, vi b), (3, vj z222), (5, vj 0), (7, vi 0)]) (show ([0, 1, 2, 3, 5, 7] : List Nat).Nodup from by decide +kernel) ⟨rfl, rfl, rfl, rfl, rfl, rfl, trivial⟩ ?_
  exact L_C_X10_goingAlong_0_15 s0   (((40 - 0) + 1 : Int)).toNat s0 a b z222 0 0 hG0 f0 (by first | exact x_rb b_a rfl rfl | exact ⟨by omega, by omega⟩) (by first | exact x_rb b_b rfl rfl | exact ⟨by omega, by omega⟩) b_z222 ⟨by omega, by omega⟩ ⟨by decide, by decide⟩  (by omega)
theorem C_X5_addMark_231 (s0 : xS) (hG0 : GI s0) (a : Int) (b_a : 0 ≤ a ∧ a ≤ 3) (b : Int) (b_b : 0 ≤ b ∧ b ≤ 5) (d : Int) (b_d : (-2147483648) ≤ d ∧ d ≤ 2147483647) : xe none 45 0 (lv_args 0 [.ref 231, vi a, vi b, vi d]) [] s0 0 0 (fun s' v => GI s' ∧ FL [2944, 3072, 3200] s0 s' ∧ ∃ z, v = some (vi z) ∧ ((-1004) ≤ z ∧ z ≤ 3)) := by
  have f0 : FL [2944, 3072, 3200] s0 s0 := FL.rf
  show xe none 45 0 [(0, .ref 231), (1, vi a), (2, vi b), (3, vi d)] [] s0 0 0 _
  refine x_A k45_0 (fun _ => rfl) ?_
  refine x_A k45_1 (fun _ => rfl) ?_
  refine x_ic_ge k45_2 (t := 17) rfl (by first | exact x_rb b_b rfl rfl | exact ⟨by omega, by omega⟩) ⟨by decide, by decide⟩ (fun c1 => ?_) (fun c1 => ?_)
  · skip
    refine x_sipush k45_17 (by decide +kernel) ?_
    exact x_iret k45_20 rfl ⟨hG0, f0, (-1004), rfl, ⟨by decide, by decide⟩⟩
  · skip
    refine x_A k45_5 (fun _ => rfl) ?_
    refine x_getR k45_6 (f := 1) rfl (q := 231) (n := 4) (kd := 12) ⟨by decide, rfl⟩ (q2 := 233) (by decide) rfl ?_
    refine x_A k45_9 (fun _ => rfl) ?_
    refine x_aald k45_10 (q := 233) (t := 23) (n := 4) ⟨by decide, rfl⟩ (by decide) (by decide) ⟨by omega, by omega⟩ ?_
    refine x_A k45_11 (fun _ => rfl) ?_
    refine x_iald k45_12 (q := (233 + 1 + a.toNat)) (n := 5) (xg_234 (by omega) (by omega)) (by decide) (by first | exact x_rbl b_b rfl rfl | exact ⟨by omega, by omega⟩) ?_
    refine x_top (fun z2 e_z2 => ?_)
    have r_z2 := hG0 (233 + 1 + a.toNat) b.toNat
    rw [(gr_234 b.toNat (show 234 ≤ (233 + 1 + a.toNat) by omega) (by omega)).1, (gr_234 b.toNat (show 234 ≤ (233 + 1 + a.toNat) by omega) (by omega)).2.1, ← e_z2] at r_z2
    refine x_A k45_13 (fun _ => rfl) ?_
    refine x_ic_lt k45_14 (t := 21) rfl (by first | exact x_rbe e_z2 g_z2 rfl rfl | exact x_rb g_z2 rfl rfl | exact ⟨by omega, by omega⟩) ⟨by decide, by decide⟩ (fun c3 => ?_) (fun c3 => ?_)
    · skip
      refine x_A k45_21 (fun _ => rfl) ?_
      refine x_A k45_22 (fun _ => rfl) ?_
      refine x_getR k45_23 (f := 0) rfl (q := 231) (n := 4) (kd := 12) ⟨by decide, rfl⟩ (q2 := 232) (by decide) rfl ?_
      refine x_A k45_26 (fun _ => rfl) ?_
      refine x_iald k45_27 (q := 232) (n := 4) ⟨by decide, rfl⟩ (by decide) (by first | exact x_rbl b_a rfl rfl | exact ⟨by omega, by omega⟩) ?_
      refine x_top (fun z4 e_z4 => ?_)
      have g_z4 : (0 : Int) ≤ s0 232 a.toNat ∧ s0 232 a.toNat ≤ 5 := hG0 232 a.toNat
      refine x_ic_ne k45_28 (t := 41) rfl (by first | exact x_rb b_b rfl rfl | exact ⟨by omega, by omega⟩) (by first | exact x_rbe e_z4 g_z4 rfl rfl | exact x_rb g_z4 rfl rfl | exact ⟨by omega, by omega⟩) (fun c5 => ?_) (fun c5 => ?_)
      · skip
        refine x_A k45_41 (fun _ => rfl) ?_
        refine x_getR k45_42 (f := 2) rfl (q := 231) (n := 4) (kd := 12) ⟨by decide, rfl⟩ (q2 := 238) (by decide) rfl ?_
        refine x_A k45_45 (fun _ => rfl) ?_
        refine x_aald k45_46 (q := 238) (t := 24) (n := 4) ⟨by decide, rfl⟩ (by decide) (by decide) ⟨by omega, by omega⟩ ?_
        refine x_A k45_47 (fun _ => rfl) ?_
        refine x_A k45_48 (fun _ => rfl) ?_
        refine x_lald k45_49 (q := (238 + 1 + a.toNat)) (n := 5) (xg_239 (by omega) (by omega)) (by decide) (by first | exact x_rbl b_b rfl rfl | exact ⟨by omega, by omega⟩) ?_
        refine x_topL (fun z6 e_z6 => ?_)
        have r_z6 := hG0 (238 + 1 + a.toNat) b.toNat
        rw [(gr_239 b.toNat (show 239 ≤ (238 + 1 + a.toNat) by omega) (by omega)).1, (gr_239 b.toNat (show 239 ≤ (238 + 1 + a.toNat) by omega) (by omega)).2.1, ← e_z6] at r_z6
        have b_z6 : in64 z6 := r_z6
        refine x_lconst k45_50 (z := 1) (by decide +kernel) ?_
        refine x_A k45_51 (fun _ => rfl) ?_
        refine x_lshl_any k45_52 (fun z7 b_z7 => ?_)
        refine x_lor_any k45_53 (fun z8 b_z8 => ?_)
        refine x_last k45_54 (q := (238 + 1 + a.toNat)) (n := 5) (xg_239 (by omega) (by omega)) (by decide) (by first | exact x_rbl b_b rfl rfl | exact ⟨by omega, by omega⟩) ?_
        refine x_nh (fun s9 e_s9 => ?_)
        have w10 := gr_239 b.toNat (show 239 ≤ (238 + 1 + a.toNat) by omega) (by omega)
        have hG_s9 : GI s9 := by rw [e_s9]; exact hG0.up (by rw [w10.1, w10.2.1]; exact (show in64 z8 from b_z8))
        have f_s9 : FL [2944, 3072, 3200] s0 s9 := by rw [e_s9]; exact f0.up (by rw [w10.2.2]; decide)
        have q11 : s9 (233 + 1 + a.toNat) b.toNat = z2 := by rw [e_s9, x_up_q (by omega)]; exact e_z2.symm
        have q12 : s9 232 a.toNat = z4 := by rw [e_s9, x_up_q (by first | decide | omega)]; exact e_z4.symm
        refine x_A k45_55 (fun _ => rfl) ?_
        refine x_getR k45_56 (f := 1) rfl (q := 231) (n := 4) (kd := 12) ⟨by decide, rfl⟩ (q2 := 233) (by decide) rfl ?_
        refine x_A k45_59 (fun _ => rfl) ?_
        refine x_aald k45_60 (q := 233) (t := 23) (n := 4) ⟨by decide, rfl⟩ (by decide) (by decide) ⟨by omega, by omega⟩ ?_
        refine x_A k45_61 (fun _ => rfl) ?_
        refine x_A k45_62 (fun _ => rfl) ?_
        refine x_iald k45_63 (q := (233 + 1 + a.toNat)) (n := 5) (xg_234 (by omega) (by omega)) (by decide) (by first | exact x_rbl b_b rfl rfl | exact ⟨by omega, by omega⟩) ?_
        rw [q11]
        refine x_A k45_64 (fun _ => rfl) ?_
        refine x_iadd k45_65 ?_
        refine x_top (fun z13 e_z13 => ?_)
        refine x_iast k45_66 (q := (233 + 1 + a.toNat)) (n := 5) (xg_234 (by omega) (by omega)) (by decide) (by first | exact x_rbl b_b rfl rfl | exact ⟨by omega, by omega⟩) ?_
        refine x_nh (fun s14 e_s14 => ?_)
        have w15 := gr_234 b.toNat (show 234 ≤ (233 + 1 + a.toNat) by omega) (by omega)
        have hG_s14 : GI s14 := by rw [e_s14]; exact hG_s9.up (by rw [w15.1, w15.2.1]; exact (show 0 ≤ z13 ∧ z13 ≤ 3 from (by first | exact x_rbe e_z13 g_z13 rfl rfl | exact x_rb g_z13 rfl rfl | exact ⟨by omega, by omega⟩)))
        have f_s14 : FL [2944, 3072, 3200] s0 s14 := by rw [e_s14]; exact f_s9.up (by rw [w15.2.2]; decide)
        have q16 : s14 232 a.toNat = z4 := by rw [e_s14, x_up_q (by first | decide | omega)]; exact q12
        have q17 : s14 (233 + 1 + a.toNat) b.toNat = z13 := by rw [e_s14]; exact x_up_same
        refine x_A k45_67 (fun _ => rfl) ?_
        refine x_getR k45_68 (f := 1) rfl (q := 231) (n := 4) (kd := 12) ⟨by decide, rfl⟩ (q2 := 233) (by decide) rfl ?_
        refine x_A k45_71 (fun _ => rfl) ?_
        refine x_aald k45_72 (q := 233) (t := 23) (n := 4) ⟨by decide, rfl⟩ (by decide) (by decide) ⟨by omega, by omega⟩ ?_
        refine x_A k45_73 (fun _ => rfl) ?_
        refine x_iald k45_74 (q := (233 + 1 + a.toNat)) (n := 5) (xg_234 (by omega) (by omega)) (by decide) (by first | exact x_rbl b_b rfl rfl | exact ⟨by omega, by omega⟩) ?_
        rw [q17]
        exact x_iret k45_75 rfl ⟨hG_s14, f_s14, z13, rfl, (by first | exact x_rbe e_z13 g_z13 rfl rfl | exact x_rb g_z13 rfl rfl | exact ⟨by omega, by omega⟩)⟩
      · skip
        refine x_A k45_31 (fun _ => rfl) ?_
        refine x_getR k45_32 (f := 0) rfl (q := 231) (n := 4) (kd := 12) ⟨by decide, rfl⟩ (q2 := 232) (by decide) rfl ?_
        refine x_A k45_35 (fun _ => rfl) ?_
        refine x_A k45_36 (fun _ => rfl) ?_
        refine x_iald k45_37 (q := 232) (n := 4) ⟨by decide, rfl⟩ (by decide) (by first | exact x_rbl b_a rfl rfl | exact ⟨by omega, by omega⟩) ?_
        rw [e_z4.symm]
        refine x_A k45_38 (fun _ => rfl) ?_
        refine x_iadd k45_39 ?_
        refine x_top (fun z18 e_z18 => ?_)
        refine x_iast k45_40 (q := 232) (n := 4) ⟨by decide, rfl⟩ (by decide) (by first | exact x_rbl b_a rfl rfl | exact ⟨by omega, by omega⟩) ?_
        refine x_nh (fun s19 e_s19 => ?_)
        have hG_s19 : GI s19 := by rw [e_s19]; exact hG0.up (show 0 ≤ z18 ∧ z18 ≤ 5 from (by first | exact x_rbe e_z18 g_z18 rfl rfl | exact x_rb g_z18 rfl rfl | exact ⟨by omega, by omega⟩))
        have f_s19 : FL [2944, 3072, 3200] s0 s19 := by rw [e_s19]; exact f0.up (show 2944 ∈ [2944, 3072, 3200] from by decide +kernel)
        have q20 : s19 (233 + 1 + a.toNat) b.toNat = z2 := by rw [e_s19, x_up_q (by omega)]; exact e_z2.symm
        have q21 : s19 232 a.toNat = z18 := by rw [e_s19]; exact x_up_same
        refine x_A k45_41 (fun _ => rfl) ?_
        refine x_getR k45_42 (f := 2) rfl (q := 231) (n := 4) (kd := 12) ⟨by decide, rfl⟩ (q2 := 238) (by decide) rfl ?_
        refine x_A k45_45 (fun _ => rfl) ?_
        refine x_aald k45_46 (q := 238) (t := 24) (n := 4) ⟨by decide, rfl⟩ (by decide) (by decide) ⟨by omega, by omega⟩ ?_
        refine x_A k45_47 (fun _ => rfl) ?_
        refine x_A k45_48 (fun _ => rfl) ?_
        refine x_lald k45_49 (q := (238 + 1 + a.toNat)) (n := 5) (xg_239 (by omega) (by omega)) (by decide) (by first | exact x_rbl b_b rfl rfl | exact ⟨by omega, by omega⟩) ?_
        refine x_topL (fun z22 e_z22 => ?_)
        have r_z22 := hG_s19 (238 + 1 + a.toNat) b.toNat
        rw [(gr_239 b.toNat (show 239 ≤ (238 + 1 + a.toNat) by omega) (by omega)).1, (gr_239 b.toNat (show 239 ≤ (238 + 1 + a.toNat) by omega) (by omega)).2.1, ← e_z22] at r_z22
        have b_z22 : in64 z22 := r_z22
        refine x_lconst k45_50 (z := 1) (by decide +kernel) ?_
        refine x_A k45_51 (fun _ => rfl) ?_
        refine x_lshl_any k45_52 (fun z23 b_z23 => ?_)
        refine x_lor_any k45_53 (fun z24 b_z24 => ?_)
        refine x_last k45_54 (q := (238 + 1 + a.toNat)) (n := 5) (xg_239 (by omega) (by omega)) (by decide) (by first | exact x_rbl b_b rfl rfl | exact ⟨by omega, by omega⟩) ?_
        refine x_nh (fun s25 e_s25 => ?_)
        have w26 := gr_239 b.toNat (show 239 ≤ (238 + 1 + a.toNat) by omega) (by omega)
        have hG_s25 : GI s25 := by rw [e_s25]; exact hG_s19.up (by rw [w26.1, w26.2.1]; exact (show in64 z24 from b_z24))
        have f_s25 : FL [2944, 3072, 3200] s0 s25 := by rw [e_s25]; exact f_s19.up (by rw [w26.2.2]; decide)
        have q27 : s25 (233 + 1 + a.toNat) b.toNat = z2 := by rw [e_s25, x_up_q (by omega)]; exact q20
        have q28 : s25 232 a.toNat = z18 := by rw [e_s25, x_up_q (by first | decide | omega)]; exact q21
        refine x_A k45_55 (fun _ => rfl) ?_
        refine x_getR k45_56 (f := 1) rfl (q := 231) (n := 4) (kd := 12) ⟨by decide, rfl⟩ (q2 := 233) (by decide) rfl ?_
        refine x_A k45_59 (fun _ => rfl) ?_
        refine x_aald k45_60 (q := 233) (t := 23) (n := 4) ⟨by decide, rfl⟩ (by decide) (by decide) ⟨by omega, by omega⟩ ?_
        refine x_A k45_61 (fun _ => rfl) ?_
        refine x_A k45_62 (fun _ => rfl) ?_
        refine x_iald k45_63 (q := (233 + 1 + a.toNat)) (n := 5) (xg_234 (by omega) (by omega)) (by decide) (by first | exact x_rbl b_b rfl rfl | exact ⟨by omega, by omega⟩) ?_
        rw [q27]
        refine x_A k45_64 (fun _ => rfl) ?_
        refine x_iadd k45_65 ?_
        refine x_top (fun z29 e_z29 => ?_)
        refine x_iast k45_66 (q := (233 + 1 + a.toNat)) (n := 5) (xg_234 (by omega) (by omega)) (by decide) (by first | exact x_rbl b_b rfl rfl | exact ⟨by omega, by omega⟩) ?_
        refine x_nh (fun s30 e_s30 => ?_)
        have w31 := gr_234 b.toNat (show 234 ≤ (233 + 1 + a.toNat) by omega) (by omega)
        have hG_s30 : GI s30 := by rw [e_s30]; exact hG_s25.up (by rw [w31.1, w31.2.1]; exact (show 0 ≤ z29 ∧ z29 ≤ 3 from (by first | exact x_rbe e_z29 g_z29 rfl rfl | exact x_rb g_z29 rfl rfl | exact ⟨by omega, by omega⟩)))
        have f_s30 : FL [2944, 3072, 3200] s0 s30 := by rw [e_s30]; exact f_s25.up (by rw [w31.2.2]; decide)
        have q32 : s30 232 a.toNat = z18 := by rw [e_s30, x_up_q (by first | decide | omega)]; exact q28
        have q33 : s30 (233 + 1 + a.toNat) b.toNat = z29 := by rw [e_s30]; exact x_up_same
        refine x_A k45_67 (fun _ => rfl) ?_
        refine x_getR k45_68 (f := 1) rfl (q := 231) (n := 4) (kd := 12) ⟨by decide, rfl⟩ (q2 := 233) (by decide) rfl ?_
        refine x_A k45_71 (fun _ => rfl) ?_
        refine x_aald k45_72 (q := 233) (t := 23) (n := 4) ⟨by decide, rfl⟩ (by decide) (by decide) ⟨by omega, by omega⟩ ?_
        refine x_A k45_73 (fun _ => rfl) ?_
        refine x_iald k45_74 (q := (233 + 1 + a.toNat)) (n := 5) (xg_234 (by omega) (by omega)) (by decide) (by first | exact x_rbl b_b rfl rfl | exact ⟨by omega, by omega⟩) ?_
        rw [q33]
        exact x_iret k45_75 rfl ⟨hG_s30, f_s30, z29, rfl, (by first | exact x_rbe e_z29 g_z29 rfl rfl | exact x_rb g_z29 rfl rfl | exact ⟨by omega, by omega⟩)⟩
    · skip
      refine x_sipush k45_17 (by decide +kernel) ?_
      exact x_iret k45_20 rfl ⟨hG0, f0, (-1004), rfl, ⟨by decide, by decide⟩⟩
theorem C_X8_meansBelow_243 (s0 : xS) (hG0 : GI s0) (a : Int) (b_a : 0 ≤ a ∧ a ≤ 119) (b : Int) (b_b : (-2147483648) ≤ b ∧ b ≤ 2147483647) : xe none 81 0 (lv_args 0 [.ref 243, vi a, vi b]) [] s0 0 0 (fun s' v => GI s' ∧ FL [] s0 s' ∧ ∃ z, v = some (vi z) ∧ (0 ≤ z ∧ z ≤ 1)) := by
  have f0 : FL [] s0 s0 := FL.rf
  show xe none 81 0 [(0, .ref 243), (1, vi a), (2, vi b)] [] s0 0 0 _
  refine x_A k81_0 (fun _ => rfl) ?_
  refine x_getR k81_1 (f := 8) rfl (q := 243) (n := 13) (kd := 13) ⟨by decide, rfl⟩ (q2 := 253) (by decide) rfl ?_
  refine x_A k81_4 (fun _ => rfl) ?_
  refine x_iald k81_5 (q := 253) (n := 120) ⟨by decide, rfl⟩ (by decide) (by first | exact x_rbl b_a rfl rfl | exact ⟨by omega, by omega⟩) ?_
  refine x_top (fun z1 e_z1 => ?_)
  have g_z1 : (-1) ≤ s0 253 a.toNat ∧ s0 253 a.toNat ≤ 39 := hG0 253 a.toNat
  refine x_A k81_6 (fun _ => rfl) ?_
  refine x_ic_eq k81_7 (t := 35) rfl (by first | exact x_rbe e_z1 g_z1 rfl rfl | exact x_rb g_z1 rfl rfl | exact ⟨by omega, by omega⟩) ⟨by decide, by decide⟩ (fun c2 => ?_) (fun c2 => ?_)
  · skip
    refine x_A k81_35 (fun _ => rfl) ?_
    exact x_zret k81_36 rfl ⟨by omega, by omega⟩ ⟨hG0, f0, 0, rfl, ⟨by decide, by decide⟩⟩
  · skip
    refine x_A k81_10 (fun _ => rfl) ?_
    refine x_getR k81_11 (f := 0) rfl (q := 243) (n := 13) (kd := 13) ⟨by decide, rfl⟩ (q2 := 1) (by decide) rfl ?_
    refine x_A k81_14 (fun _ => rfl) ?_
    refine x_getR k81_15 (f := 8) rfl (q := 243) (n := 13) (kd := 13) ⟨by decide, rfl⟩ (q2 := 253) (by decide) rfl ?_
    refine x_A k81_18 (fun _ => rfl) ?_
    refine x_iald k81_19 (q := 253) (n := 120) ⟨by decide, rfl⟩ (by decide) (by first | exact x_rbl b_a rfl rfl | exact ⟨by omega, by omega⟩) ?_
    rw [e_z1.symm]
    refine x_A k81_20 (fun _ => rfl) ?_
    refine x_A k81_21 (fun _ => rfl) ?_
    refine x_getI k81_22 (f := 12) rfl (q := 243) (n := 13) (kd := 13) ⟨by decide, rfl⟩ (by decide) rfl ?_
    refine x_top (fun z3 e_z3 => ?_)
    have g_z3 : (-1) ≤ s0 243 12 ∧ s0 243 12 ≤ 9 := hG0 243 12
    obtain ⟨z4, e_z4⟩ : ∃ z, z = s0 1 4 := ⟨_, rfl⟩
    have g_z4 : (1 : Int) ≤ s0 1 4 ∧ s0 1 4 ≤ 40 := hG0 1 4
    refine x_callV k81_25 (y := 66) (n := 3) (w0 := 0) (w1 := 3) (as := [vi z1, vi b, vi z3]) (rest := []) (by decide +kernel) (q := 1) (nq := 5) (kq := 4) ⟨by decide, rfl⟩ rfl rfl rfl rfl (xe_mono (C_X7_isBelow_1 s0 hG0 z1 (by first | exact x_rbe e_z1 g_z1 rfl rfl | exact x_rb g_z1 rfl rfl | exact ⟨by omega, by omega⟩) b (by first | exact x_rb b_b rfl rfl | exact ⟨by omega, by omega⟩) z3 (by first | exact x_rbe e_z3 g_z3 rfl rfl | exact x_rb g_z3 rfl rfl | exact ⟨by omega, by omega⟩)) ?_)
    rintro s6 v ⟨h_s6, z5, rfl, hz_z5⟩
    rw [h_s6]
    rcases hz_z5 with ⟨c_z5, e_z5⟩ | e_z5
    · rw [e_z5]
      show xe none 81 28 [(0, .ref 243), (1, vi a), (2, vi b)] [vi 1] s0 0 0 _
      refine x_if_eq k81_28 (t := 35) rfl ⟨by decide, by decide⟩ (fun c7 => by exfalso; omega) (fun c7 => ?_)
      refine x_A k81_31 (fun _ => rfl) ?_
      refine x_goto k81_32 (t := 36) rfl ?_
      exact x_zret k81_36 rfl ⟨by omega, by omega⟩ ⟨hG0, f0, 1, rfl, ⟨by decide, by decide⟩⟩
    · rw [e_z5]
      show xe none 81 28 [(0, .ref 243), (1, vi a), (2, vi b)] [vi 0] s0 0 0 _
      refine x_if_eq k81_28 (t := 35) rfl ⟨by decide, by decide⟩ (fun c8 => ?_) (fun c8 => by exfalso; omega)
      refine x_A k81_35 (fun _ => rfl) ?_
      exact x_zret k81_36 rfl ⟨by omega, by omega⟩ ⟨hG0, f0, 0, rfl, ⟨by decide, by decide⟩⟩
theorem L_C_X8_seenBy_243_5 (s0 : xS)   : ∀ (n : Nat) (s : xS) (x1 : Int) (x2 : Int) (x3 : Int) (x5 : Int) (hG : GI s) (f : FL [] s0 s) (b_x1 : (-2147483648) ≤ x1 ∧ x1 ≤ 2147483647) (b_x2 : (-2147483648) ≤ x2 ∧ x2 ≤ 2147483647) (b_x3 : in64 x3) (b_x5 : 0 ≤ x5 ∧ x5 ≤ 120)  (hm : (120 - x5) < (n : Int)), xe none 82 5 [(0, .ref 243), (1, vi x1), (2, vi x2), (3, vj x3), (5, vi x5)] [] s 0 0 (fun s' v => GI s' ∧ FL [] s0 s' ∧ ∃ z, v = some (vj z) ∧ in64 z) := by
  intro n
  induction n with
  | zero => intro s x1 x2 x3 x5 hG f b_x1 b_x2 b_x3 b_x5  hm; exfalso; omega
  | succ n ih =>
    intro s x1 x2 x3 x5 hG f b_x1 b_x2 b_x3 b_x5  hm
    refine x_A k82_5 (fun _ => rfl) ?_
    refine x_A k82_7 (fun _ => rfl) ?_
    refine x_getR k82_8 (f := 1) rfl (q := 243) (n := 13) (kd := 13) ⟨by decide, rfl⟩ (q2 := 50) (by decide) rfl ?_
    refine x_getI k82_11 (f := 6) rfl (q := 50) (n := 7) (kd := 6) ⟨by decide, rfl⟩ (by decide) rfl ?_
    refine x_top (fun z201 e_z201 => ?_)
    have g_z201 : (0 : Int) ≤ s 50 6 ∧ s 50 6 ≤ 120 := hG 50 6
    refine x_ic_ge k82_14 (t := 62) rfl (by first | exact x_rb b_x5 rfl rfl | exact ⟨by omega, by omega⟩) (by first | exact x_rbe e_z201 g_z201 rfl rfl | exact x_rb g_z201 rfl rfl | exact ⟨by omega, by omega⟩) (fun c202 => ?_) (fun c202 => ?_)
    · skip
      refine x_A k82_62 (fun _ => rfl) ?_
      exact x_lret k82_63 rfl ⟨hG, f, x3, rfl, b_x3⟩
    · skip
      refine x_A k82_17 (fun _ => rfl) ?_
      refine x_getR k82_18 (f := 1) rfl (q := 243) (n := 13) (kd := 13) ⟨by decide, rfl⟩ (q2 := 50) (by decide) rfl ?_
      refine x_getR k82_21 (f := 2) rfl (q := 50) (n := 7) (kd := 6) ⟨by decide, rfl⟩ (q2 := 53) (by decide) rfl ?_
      refine x_A k82_24 (fun _ => rfl) ?_
      refine x_iald k82_26 (q := 53) (n := 120) ⟨by decide, rfl⟩ (by decide) (by first | exact x_rbl b_x5 rfl rfl | exact ⟨by omega, by omega⟩) ?_
      refine x_top (fun z203 e_z203 => ?_)
      have g_z203 : (0 : Int) ≤ s 53 x5.toNat ∧ s 53 x5.toNat ≤ 7 := hG 53 x5.toNat
      refine x_A k82_27 (fun _ => rfl) ?_
      refine x_ic_ne k82_28 (t := 56) rfl (by first | exact x_rbe e_z203 g_z203 rfl rfl | exact x_rb g_z203 rfl rfl | exact ⟨by omega, by omega⟩) (by first | exact x_rb b_x1 rfl rfl | exact ⟨by omega, by omega⟩) (fun c204 => ?_) (fun c204 => ?_)
      · skip
        refine x_iinc k82_56 (ls' := [(5, vi (x5 + 1)), (0, .ref 243), (1, vi x1), (2, vi x2), (3, vj x3)]) rfl (by decide) rfl ?_
        refine x_goto k82_59 (t := 5) rfl ?_
        refine x_ls (l := [(0, .ref 243), (1, vi x1), (2, vi x2), (3, vj x3), (5, vi (x5 + 1))]) (show ([0, 1, 2, 3, 5] : List Nat).Nodup from by decide +kernel) ⟨rfl, rfl, rfl, rfl, rfl, trivial⟩ ?_
        exact ih s x1 x2 x3 (x5 + 1) hG f (by first | exact x_rb b_x1 rfl rfl | exact ⟨by omega, by omega⟩) (by first | exact x_rb b_x2 rfl rfl | exact ⟨by omega, by omega⟩) b_x3 ⟨by omega, by omega⟩  (by omega)
      · skip
        refine x_A k82_31 (fun _ => rfl) ?_
        refine x_A k82_32 (fun _ => rfl) ?_
        refine x_A k82_34 (fun _ => rfl) ?_
        refine x_callV k82_35 (y := 81) (n := 2) (w0 := 0) (w1 := 2) (as := [vi x5, vi x2]) (rest := []) (by decide +kernel) (q := 243) (nq := 13) (kq := 13) ⟨by decide, rfl⟩ rfl rfl rfl rfl (xe_mono (C_X8_meansBelow_243 s hG x5 (by first | exact x_rb b_x5 rfl rfl | exact ⟨by omega, by omega⟩) x2 (by first | exact x_rb b_x2 rfl rfl | exact ⟨by omega, by omega⟩)) ?_)
        rintro s206 v ⟨-, t_s206, z205, rfl, g_z205⟩
        rw [t_s206.nil]
        show xe none 82 38 [(0, .ref 243), (1, vi x1), (2, vi x2), (3, vj x3), (5, vi x5)] [vi z205] s 0 0 _
        refine x_if_eq k82_38 (t := 56) rfl (by first | exact x_rbe e_z205 g_z205 rfl rfl | exact x_rb g_z205 rfl rfl | exact ⟨by omega, by omega⟩) (fun c207 => ?_) (fun c207 => ?_)
        · skip
          refine x_iinc k82_56 (ls' := [(5, vi (x5 + 1)), (0, .ref 243), (1, vi x1), (2, vi x2), (3, vj x3)]) rfl (by decide) rfl ?_
          refine x_goto k82_59 (t := 5) rfl ?_
          refine x_ls (l := [(0, .ref 243), (1, vi x1), (2, vi x2), (3, vj x3), (5, vi (x5 + 1))]) (show ([0, 1, 2, 3, 5] : List Nat).Nodup from by decide +kernel) ⟨rfl, rfl, rfl, rfl, rfl, trivial⟩ ?_
          exact ih s x1 x2 x3 (x5 + 1) hG f (by first | exact x_rb b_x1 rfl rfl | exact ⟨by omega, by omega⟩) (by first | exact x_rb b_x2 rfl rfl | exact ⟨by omega, by omega⟩) b_x3 ⟨by omega, by omega⟩  (by omega)
        · skip
          refine x_A k82_41 (fun _ => rfl) ?_
          refine x_lconst k82_42 (z := 1) (by decide +kernel) ?_
          refine x_A k82_43 (fun _ => rfl) ?_
          refine x_getR k82_44 (f := 1) rfl (q := 243) (n := 13) (kd := 13) ⟨by decide, rfl⟩ (q2 := 50) (by decide) rfl ?_
          refine x_getR k82_47 (f := 0) rfl (q := 50) (n := 7) (kd := 6) ⟨by decide, rfl⟩ (q2 := 51) (by decide) rfl ?_
          refine x_A k82_50 (fun _ => rfl) ?_
          refine x_iald k82_52 (q := 51) (n := 120) ⟨by decide, rfl⟩ (by decide) (by first | exact x_rbl b_x5 rfl rfl | exact ⟨by omega, by omega⟩) ?_
          refine x_top (fun z208 e_z208 => ?_)
          have g_z208 : (0 : Int) ≤ s 51 x5.toNat ∧ s 51 x5.toNat ≤ 39 := hG 51 x5.toNat
          refine x_lshl_any k82_53 (fun z209 b_z209 => ?_)
          refine x_lor_any k82_54 (fun z210 b_z210 => ?_)
          refine x_lstore_n k82_55 (ls' := [(3, vj z210), (0, .ref 243), (1, vi x1), (2, vi x2), (5, vi x5)]) (by decide) rfl ?_
          refine x_iinc k82_56 (ls' := [(5, vi (x5 + 1)), (3, vj z210), (0, .ref 243), (1, vi x1), (2, vi x2)]) rfl (by decide) rfl ?_
          refine x_goto k82_59 (t := 5) rfl ?_
          refine x_ls (l := [(0, .ref 243), (1, vi x1), (2, vi x2), (3, vj z210), (5, vi (x5 + 1))]) (show ([0, 1, 2, 3, 5] : List Nat).Nodup from by decide +kernel) ⟨rfl, rfl, rfl, rfl, rfl, trivial⟩ ?_
          exact ih s x1 x2 z210 (x5 + 1) hG f (by first | exact x_rb b_x1 rfl rfl | exact ⟨by omega, by omega⟩) (by first | exact x_rb b_x2 rfl rfl | exact ⟨by omega, by omega⟩) b_z210 ⟨by omega, by omega⟩  (by omega)
theorem C_X8_seenBy_243 (s0 : xS) (hG0 : GI s0) (a : Int) (b_a : (-2147483648) ≤ a ∧ a ≤ 2147483647) (b : Int) (b_b : (-2147483648) ≤ b ∧ b ≤ 2147483647) : xe none 82 0 (lv_args 0 [.ref 243, vi a, vi b]) [] s0 0 0 (fun s' v => GI s' ∧ FL [] s0 s' ∧ ∃ z, v = some (vj z) ∧ in64 z) := by
  have f0 : FL [] s0 s0 := FL.rf
  show xe none 82 0 [(0, .ref 243), (1, vi a), (2, vi b)] [] s0 0 0 _
  refine x_lconst k82_0 (z := 0) (by decide +kernel) ?_
  refine x_lstore_n k82_1 (ls' := [(3, vj 0), (0, .ref 243), (1, vi a), (2, vi b)]) (by decide) rfl ?_
  refine x_A k82_2 (fun _ => rfl) ?_
  refine x_istore k82_3 (ls' := [(5, vi 0), (3, vj 0), (0, .ref 243), (1, vi a), (2, vi b)]) (by decide) rfl ?_
  refine x_ls (l := [(0, .ref 243), (1, vi a), (2, vi b), (3, vj 0), (5, vi 0)]) (show ([0, 1, 2, 3, 5] : List Nat).Nodup from by decide +kernel) ⟨rfl, rfl, rfl, rfl, rfl, trivial⟩ ?_
  exact L_C_X8_seenBy_243_5 s0   (((120 - 0) + 1 : Int)).toNat s0 a b 0 0 hG0 f0 (by first | exact x_rb b_a rfl rfl | exact ⟨by omega, by omega⟩) (by first | exact x_rb b_b rfl rfl | exact ⟨by omega, by omega⟩) ⟨by omega, by omega⟩ ⟨by decide, by decide⟩  (by omega)
theorem L_C_X8_countWrong_243_4 (s0 : xS)   : ∀ (n : Nat) (s : xS) (x1 : Int) (x2 : Int) (hG : GI s) (f : FL [] s0 s) (b_x1 : 0 ≤ x1 ∧ x1 ≤ 127) (b_x2 : 0 ≤ x2 ∧ x2 ≤ 120) (r_1_2 : x1 ≤ x2 + 0)  (hm : (120 - x2) < (n : Int)), xe none 84 4 [(0, .ref 243), (1, vi x1), (2, vi x2)] [] s 0 0 (fun s' v => GI s' ∧ FL [] s0 s' ∧ ∃ z, v = some (vi z) ∧ (0 ≤ z ∧ z ≤ 120)) := by
  intro n
  induction n with
  | zero => intro s x1 x2 hG f b_x1 b_x2 r_1_2  hm; exfalso; omega
  | succ n ih =>
    intro s x1 x2 hG f b_x1 b_x2 r_1_2  hm
    refine x_A k84_4 (fun _ => rfl) ?_
    refine x_A k84_5 (fun _ => rfl) ?_
    refine x_getR k84_6 (f := 1) rfl (q := 243) (n := 13) (kd := 13) ⟨by decide, rfl⟩ (q2 := 50) (by decide) rfl ?_
    refine x_getI k84_9 (f := 6) rfl (q := 50) (n := 7) (kd := 6) ⟨by decide, rfl⟩ (by decide) rfl ?_
    refine x_top (fun z85 e_z85 => ?_)
    have g_z85 : (0 : Int) ≤ s 50 6 ∧ s 50 6 ≤ 120 := hG 50 6
    refine x_ic_ge k84_12 (t := 33) rfl (by first | exact x_rb b_x2 rfl rfl | exact ⟨by omega, by omega⟩) (by first | exact x_rbe e_z85 g_z85 rfl rfl | exact x_rb g_z85 rfl rfl | exact ⟨by omega, by omega⟩) (fun c86 => ?_) (fun c86 => ?_)
    · skip
      refine x_A k84_33 (fun _ => rfl) ?_
      exact x_iret k84_34 rfl ⟨hG, f, x1, rfl, (by first | exact x_rb b_x1 rfl rfl | exact ⟨by omega, by omega⟩)⟩
    · skip
      refine x_A k84_15 (fun _ => rfl) ?_
      refine x_getR k84_16 (f := 7) rfl (q := 243) (n := 13) (kd := 13) ⟨by decide, rfl⟩ (q2 := 252) (by decide) rfl ?_
      refine x_A k84_19 (fun _ => rfl) ?_
      refine x_iald k84_20 (q := 252) (n := 120) ⟨by decide, rfl⟩ (by decide) (by first | exact x_rbl b_x2 rfl rfl | exact ⟨by omega, by omega⟩) ?_
      refine x_top (fun z87 e_z87 => ?_)
      have g_z87 : (0 : Int) ≤ s 252 x2.toNat ∧ s 252 x2.toNat ≤ 4 := hG 252 x2.toNat
      refine x_if_eq k84_21 (t := 27) rfl (by first | exact x_rbe e_z87 g_z87 rfl rfl | exact x_rb g_z87 rfl rfl | exact ⟨by omega, by omega⟩) (fun c88 => ?_) (fun c88 => ?_)
      · skip
        refine x_iinc k84_27 (ls' := [(2, vi (x2 + 1)), (0, .ref 243), (1, vi x1)]) rfl (by decide) rfl ?_
        refine x_goto k84_30 (t := 4) rfl ?_
        refine x_ls (l := [(0, .ref 243), (1, vi x1), (2, vi (x2 + 1))]) (show ([0, 1, 2] : List Nat).Nodup from by decide +kernel) ⟨rfl, rfl, rfl, trivial⟩ ?_
        exact ih s x1 (x2 + 1) hG f (by first | exact x_rb b_x1 rfl rfl | exact ⟨by omega, by omega⟩) ⟨by omega, by omega⟩ (by omega)  (by omega)
      · skip
        refine x_iinc k84_24 (ls' := [(1, vi (x1 + 1)), (0, .ref 243), (2, vi x2)]) rfl (by decide) rfl ?_
        refine x_iinc k84_27 (ls' := [(2, vi (x2 + 1)), (1, vi (x1 + 1)), (0, .ref 243)]) rfl (by decide) rfl ?_
        refine x_goto k84_30 (t := 4) rfl ?_
        refine x_ls (l := [(0, .ref 243), (1, vi (x1 + 1)), (2, vi (x2 + 1))]) (show ([0, 1, 2] : List Nat).Nodup from by decide +kernel) ⟨rfl, rfl, rfl, trivial⟩ ?_
        exact ih s (x1 + 1) (x2 + 1) hG f ⟨by omega, by omega⟩ ⟨by omega, by omega⟩ (by omega)  (by omega)
theorem C_X8_countWrong_243 (s0 : xS) (hG0 : GI s0)  : xe none 84 0 (lv_args 0 [.ref 243]) [] s0 0 0 (fun s' v => GI s' ∧ FL [] s0 s' ∧ ∃ z, v = some (vi z) ∧ (0 ≤ z ∧ z ≤ 120)) := by
  have f0 : FL [] s0 s0 := FL.rf
  show xe none 84 0 [(0, .ref 243)] [] s0 0 0 _
  refine x_A k84_0 (fun _ => rfl) ?_
  refine x_istore_n k84_1 (ls' := [(1, vi 0), (0, .ref 243)]) (by decide) rfl ?_
  refine x_A k84_2 (fun _ => rfl) ?_
  refine x_istore_n k84_3 (ls' := [(2, vi 0), (1, vi 0), (0, .ref 243)]) (by decide) rfl ?_
  refine x_ls (l := [(0, .ref 243), (1, vi 0), (2, vi 0)]) (show ([0, 1, 2] : List Nat).Nodup from by decide +kernel) ⟨rfl, rfl, rfl, trivial⟩ ?_
  exact L_C_X8_countWrong_243_4 s0   (((120 - 0) + 1 : Int)).toNat s0 0 0 hG0 f0 ⟨by decide, by decide⟩ ⟨by decide, by decide⟩ (by omega)  (by omega)
theorem L_C_X8_countNeedingLook_243_4 (s0 : xS)   : ∀ (n : Nat) (s : xS) (x1 : Int) (x2 : Int) (hG : GI s) (f : FL [] s0 s) (b_x1 : 0 ≤ x1 ∧ x1 ≤ 127) (b_x2 : 0 ≤ x2 ∧ x2 ≤ 120) (r_1_2 : x1 ≤ x2 + 0)  (hm : (120 - x2) < (n : Int)), xe none 85 4 [(0, .ref 243), (1, vi x1), (2, vi x2)] [] s 0 0 (fun s' v => GI s' ∧ FL [] s0 s' ∧ ∃ z, v = some (vi z) ∧ (0 ≤ z ∧ z ≤ 120)) := by
  intro n
  induction n with
  | zero => intro s x1 x2 hG f b_x1 b_x2 r_1_2  hm; exfalso; omega
  | succ n ih =>
    intro s x1 x2 hG f b_x1 b_x2 r_1_2  hm
    refine x_A k85_4 (fun _ => rfl) ?_
    refine x_A k85_5 (fun _ => rfl) ?_
    refine x_getR k85_6 (f := 1) rfl (q := 243) (n := 13) (kd := 13) ⟨by decide, rfl⟩ (q2 := 50) (by decide) rfl ?_
    refine x_getI k85_9 (f := 6) rfl (q := 50) (n := 7) (kd := 6) ⟨by decide, rfl⟩ (by decide) rfl ?_
    refine x_top (fun z85 e_z85 => ?_)
    have g_z85 : (0 : Int) ≤ s 50 6 ∧ s 50 6 ≤ 120 := hG 50 6
    refine x_ic_ge k85_12 (t := 33) rfl (by first | exact x_rb b_x2 rfl rfl | exact ⟨by omega, by omega⟩) (by first | exact x_rbe e_z85 g_z85 rfl rfl | exact x_rb g_z85 rfl rfl | exact ⟨by omega, by omega⟩) (fun c86 => ?_) (fun c86 => ?_)
    · skip
      refine x_A k85_33 (fun _ => rfl) ?_
      exact x_iret k85_34 rfl ⟨hG, f, x1, rfl, (by first | exact x_rb b_x1 rfl rfl | exact ⟨by omega, by omega⟩)⟩
    · skip
      refine x_A k85_15 (fun _ => rfl) ?_
      refine x_getR k85_16 (f := 9) rfl (q := 243) (n := 13) (kd := 13) ⟨by decide, rfl⟩ (q2 := 254) (by decide) rfl ?_
      refine x_A k85_19 (fun _ => rfl) ?_
      refine x_bald k85_20 (q := 254) (n := 120) ⟨by decide, rfl⟩ (by decide) (by first | exact x_rbl b_x2 rfl rfl | exact ⟨by omega, by omega⟩) ?_
      refine x_top (fun z87 e_z87 => ?_)
      have g_z87 : (0 : Int) ≤ s 254 x2.toNat ∧ s 254 x2.toNat ≤ 1 := hG 254 x2.toNat
      refine x_if_eq k85_21 (t := 27) rfl (by first | exact x_rbe e_z87 g_z87 rfl rfl | exact x_rb g_z87 rfl rfl | exact ⟨by omega, by omega⟩) (fun c88 => ?_) (fun c88 => ?_)
      · skip
        refine x_iinc k85_27 (ls' := [(2, vi (x2 + 1)), (0, .ref 243), (1, vi x1)]) rfl (by decide) rfl ?_
        refine x_goto k85_30 (t := 4) rfl ?_
        refine x_ls (l := [(0, .ref 243), (1, vi x1), (2, vi (x2 + 1))]) (show ([0, 1, 2] : List Nat).Nodup from by decide +kernel) ⟨rfl, rfl, rfl, trivial⟩ ?_
        exact ih s x1 (x2 + 1) hG f (by first | exact x_rb b_x1 rfl rfl | exact ⟨by omega, by omega⟩) ⟨by omega, by omega⟩ (by omega)  (by omega)
      · skip
        refine x_iinc k85_24 (ls' := [(1, vi (x1 + 1)), (0, .ref 243), (2, vi x2)]) rfl (by decide) rfl ?_
        refine x_iinc k85_27 (ls' := [(2, vi (x2 + 1)), (1, vi (x1 + 1)), (0, .ref 243)]) rfl (by decide) rfl ?_
        refine x_goto k85_30 (t := 4) rfl ?_
        refine x_ls (l := [(0, .ref 243), (1, vi (x1 + 1)), (2, vi (x2 + 1))]) (show ([0, 1, 2] : List Nat).Nodup from by decide +kernel) ⟨rfl, rfl, rfl, trivial⟩ ?_
        exact ih s (x1 + 1) (x2 + 1) hG f ⟨by omega, by omega⟩ ⟨by omega, by omega⟩ (by omega)  (by omega)
theorem C_X8_countNeedingLook_243 (s0 : xS) (hG0 : GI s0)  : xe none 85 0 (lv_args 0 [.ref 243]) [] s0 0 0 (fun s' v => GI s' ∧ FL [] s0 s' ∧ ∃ z, v = some (vi z) ∧ (0 ≤ z ∧ z ≤ 120)) := by
  have f0 : FL [] s0 s0 := FL.rf
  show xe none 85 0 [(0, .ref 243)] [] s0 0 0 _
  refine x_A k85_0 (fun _ => rfl) ?_
  refine x_istore_n k85_1 (ls' := [(1, vi 0), (0, .ref 243)]) (by decide) rfl ?_
  refine x_A k85_2 (fun _ => rfl) ?_
  refine x_istore_n k85_3 (ls' := [(2, vi 0), (1, vi 0), (0, .ref 243)]) (by decide) rfl ?_
  refine x_ls (l := [(0, .ref 243), (1, vi 0), (2, vi 0)]) (show ([0, 1, 2] : List Nat).Nodup from by decide +kernel) ⟨rfl, rfl, rfl, trivial⟩ ?_
  exact L_C_X8_countNeedingLook_243_4 s0   (((120 - 0) + 1 : Int)).toNat s0 0 0 hG0 f0 ⟨by decide, by decide⟩ ⟨by decide, by decide⟩ (by omega)  (by omega)
theorem L_C_X11_hasHand_256_6 (s0 : xS)   : ∀ (n : Nat) (s : xS) (x1 : Int) (x2 : Int) (x3 : Int) (x4 : Int) (x5 : Int) (hG : GI s) (f : FL [] s0 s) (b_x1 : (-2147483648) ≤ x1 ∧ x1 ≤ 2147483647) (b_x2 : (-2147483648) ≤ x2 ∧ x2 ≤ 2147483647) (b_x3 : (-2147483648) ≤ x3 ∧ x3 ≤ 2147483647) (b_x4 : 0 ≤ x4 ∧ x4 ≤ 1) (b_x5 : 0 ≤ x5 ∧ x5 ≤ 120) (r_4_5 : x4 ≤ x5 + 0)  (hm : (120 - x5) < (n : Int)), xe none 201 6 [(0, .ref 256), (1, vi x1), (2, vi x2), (3, vi x3), (4, vi x4), (5, vi x5)] [] s 0 0 (fun s' v => GI s' ∧ FL [] s0 s' ∧ ∃ z, v = some (vi z) ∧ (0 ≤ z ∧ z ≤ 1)) := by
  intro n
  induction n with
  | zero => intro s x1 x2 x3 x4 x5 hG f b_x1 b_x2 b_x3 b_x4 b_x5 r_4_5  hm; exfalso; omega
  | succ n ih =>
    intro s x1 x2 x3 x4 x5 hG f b_x1 b_x2 b_x3 b_x4 b_x5 r_4_5  hm
    refine x_A k201_6 (fun _ => rfl) ?_
    refine x_A k201_8 (fun _ => rfl) ?_
    refine x_getI k201_9 (f := 10) rfl (q := 256) (n := 62) (kd := 15) ⟨by decide, rfl⟩ (by decide) rfl ?_
    refine x_top (fun z181 e_z181 => ?_)
    have g_z181 : (0 : Int) ≤ s 256 10 ∧ s 256 10 ≤ 120 := hG 256 10
    refine x_ic_ge k201_12 (t := 66) rfl (by first | exact x_rb b_x5 rfl rfl | exact ⟨by omega, by omega⟩) (by first | exact x_rbe e_z181 g_z181 rfl rfl | exact x_rb g_z181 rfl rfl | exact ⟨by omega, by omega⟩) (fun c182 => ?_) (fun c182 => ?_)
    · skip
      refine x_A k201_66 (fun _ => rfl) ?_
      exact x_zret k201_68 rfl ⟨by omega, by omega⟩ ⟨hG, f, x4, rfl, (by first | exact x_rb b_x4 rfl rfl | exact ⟨by omega, by omega⟩)⟩
    · skip
      refine x_A k201_15 (fun _ => rfl) ?_
      refine x_if_ne k201_17 (t := 53) rfl (by first | exact x_rb b_x4 rfl rfl | exact ⟨by omega, by omega⟩) (fun c183 => ?_) (fun c183 => ?_)
      · skip
        refine x_A k201_53 (fun _ => rfl) ?_
        refine x_goto k201_54 (t := 58) rfl ?_
        refine x_istore k201_58 (ls' := [(4, vi 1), (0, .ref 256), (1, vi x1), (2, vi x2), (3, vi x3), (5, vi x5)]) (by decide) rfl ?_
        refine x_iinc k201_60 (ls' := [(5, vi (x5 + 1)), (4, vi 1), (0, .ref 256), (1, vi x1), (2, vi x2), (3, vi x3)]) rfl (by decide) rfl ?_
        refine x_goto k201_63 (t := 6) rfl ?_
        refine x_ls (l := [(0, .ref 256), (1, vi x1), (2, vi x2), (3, vi x3), (4, vi 1), (5, vi (x5 + 1))]) (show ([0, 1, 2, 3, 4, 5] : List Nat).Nodup from by decide +kernel) ⟨rfl, rfl, rfl, rfl, rfl, rfl, trivial⟩ ?_
        exact ih s x1 x2 x3 1 (x5 + 1) hG f (by first | exact x_rb b_x1 rfl rfl | exact ⟨by omega, by omega⟩) (by first | exact x_rb b_x2 rfl rfl | exact ⟨by omega, by omega⟩) (by first | exact x_rb b_x3 rfl rfl | exact ⟨by omega, by omega⟩) ⟨by decide, by decide⟩ ⟨by omega, by omega⟩ (by omega)  (by omega)
      · skip
        refine x_A k201_20 (fun _ => rfl) ?_
        refine x_getR k201_21 (f := 11) rfl (q := 256) (n := 62) (kd := 15) ⟨by decide, rfl⟩ (q2 := 264) (by decide) rfl ?_
        refine x_A k201_24 (fun _ => rfl) ?_
        refine x_iald k201_26 (q := 264) (n := 120) ⟨by decide, rfl⟩ (by decide) (by first | exact x_rbl b_x5 rfl rfl | exact ⟨by omega, by omega⟩) ?_
        refine x_top (fun z184 e_z184 => ?_)
        have g_z184 : (0 : Int) ≤ s 264 x5.toNat ∧ s 264 x5.toNat ≤ 39 := hG 264 x5.toNat
        refine x_A k201_27 (fun _ => rfl) ?_
        refine x_ic_ne k201_28 (t := 57) rfl (by first | exact x_rbe e_z184 g_z184 rfl rfl | exact x_rb g_z184 rfl rfl | exact ⟨by omega, by omega⟩) (by first | exact x_rb b_x1 rfl rfl | exact ⟨by omega, by omega⟩) (fun c185 => ?_) (fun c185 => ?_)
        · skip
          refine x_A k201_57 (fun _ => rfl) ?_
          refine x_istore k201_58 (ls' := [(4, vi 0), (0, .ref 256), (1, vi x1), (2, vi x2), (3, vi x3), (5, vi x5)]) (by decide) rfl ?_
          refine x_iinc k201_60 (ls' := [(5, vi (x5 + 1)), (4, vi 0), (0, .ref 256), (1, vi x1), (2, vi x2), (3, vi x3)]) rfl (by decide) rfl ?_
          refine x_goto k201_63 (t := 6) rfl ?_
          refine x_ls (l := [(0, .ref 256), (1, vi x1), (2, vi x2), (3, vi x3), (4, vi 0), (5, vi (x5 + 1))]) (show ([0, 1, 2, 3, 4, 5] : List Nat).Nodup from by decide +kernel) ⟨rfl, rfl, rfl, rfl, rfl, rfl, trivial⟩ ?_
          exact ih s x1 x2 x3 0 (x5 + 1) hG f (by first | exact x_rb b_x1 rfl rfl | exact ⟨by omega, by omega⟩) (by first | exact x_rb b_x2 rfl rfl | exact ⟨by omega, by omega⟩) (by first | exact x_rb b_x3 rfl rfl | exact ⟨by omega, by omega⟩) ⟨by decide, by decide⟩ ⟨by omega, by omega⟩ (by omega)  (by omega)
        · skip
          refine x_A k201_31 (fun _ => rfl) ?_
          refine x_getR k201_32 (f := 13) rfl (q := 256) (n := 62) (kd := 15) ⟨by decide, rfl⟩ (q2 := 266) (by decide) rfl ?_
          refine x_A k201_35 (fun _ => rfl) ?_
          refine x_iald k201_37 (q := 266) (n := 120) ⟨by decide, rfl⟩ (by decide) (by first | exact x_rbl b_x5 rfl rfl | exact ⟨by omega, by omega⟩) ?_
          refine x_top (fun z186 e_z186 => ?_)
          have g_z186 : (0 : Int) ≤ s 266 x5.toNat ∧ s 266 x5.toNat ≤ 7 := hG 266 x5.toNat
          refine x_A k201_38 (fun _ => rfl) ?_
          refine x_ic_ne k201_39 (t := 57) rfl (by first | exact x_rbe e_z186 g_z186 rfl rfl | exact x_rb g_z186 rfl rfl | exact ⟨by omega, by omega⟩) (by first | exact x_rb b_x2 rfl rfl | exact ⟨by omega, by omega⟩) (fun c187 => ?_) (fun c187 => ?_)
          · skip
            refine x_A k201_57 (fun _ => rfl) ?_
            refine x_istore k201_58 (ls' := [(4, vi 0), (0, .ref 256), (1, vi x1), (2, vi x2), (3, vi x3), (5, vi x5)]) (by decide) rfl ?_
            refine x_iinc k201_60 (ls' := [(5, vi (x5 + 1)), (4, vi 0), (0, .ref 256), (1, vi x1), (2, vi x2), (3, vi x3)]) rfl (by decide) rfl ?_
            refine x_goto k201_63 (t := 6) rfl ?_
            refine x_ls (l := [(0, .ref 256), (1, vi x1), (2, vi x2), (3, vi x3), (4, vi 0), (5, vi (x5 + 1))]) (show ([0, 1, 2, 3, 4, 5] : List Nat).Nodup from by decide +kernel) ⟨rfl, rfl, rfl, rfl, rfl, rfl, trivial⟩ ?_
            exact ih s x1 x2 x3 0 (x5 + 1) hG f (by first | exact x_rb b_x1 rfl rfl | exact ⟨by omega, by omega⟩) (by first | exact x_rb b_x2 rfl rfl | exact ⟨by omega, by omega⟩) (by first | exact x_rb b_x3 rfl rfl | exact ⟨by omega, by omega⟩) ⟨by decide, by decide⟩ ⟨by omega, by omega⟩ (by omega)  (by omega)
          · skip
            refine x_A k201_42 (fun _ => rfl) ?_
            refine x_getR k201_43 (f := 15) rfl (q := 256) (n := 62) (kd := 15) ⟨by decide, rfl⟩ (q2 := 268) (by decide) rfl ?_
            refine x_A k201_46 (fun _ => rfl) ?_
            refine x_iald k201_48 (q := 268) (n := 120) ⟨by decide, rfl⟩ (by decide) (by first | exact x_rbl b_x5 rfl rfl | exact ⟨by omega, by omega⟩) ?_
            refine x_top (fun z188 e_z188 => ?_)
            have g_z188 : (0 : Int) ≤ s 268 x5.toNat ∧ s 268 x5.toNat ≤ 9 := hG 268 x5.toNat
            refine x_A k201_49 (fun _ => rfl) ?_
            refine x_ic_gt k201_50 (t := 57) rfl (by first | exact x_rbe e_z188 g_z188 rfl rfl | exact x_rb g_z188 rfl rfl | exact ⟨by omega, by omega⟩) (by first | exact x_rb b_x3 rfl rfl | exact ⟨by omega, by omega⟩) (fun c189 => ?_) (fun c189 => ?_)
            · skip
              refine x_A k201_57 (fun _ => rfl) ?_
              refine x_istore k201_58 (ls' := [(4, vi 0), (0, .ref 256), (1, vi x1), (2, vi x2), (3, vi x3), (5, vi x5)]) (by decide) rfl ?_
              refine x_iinc k201_60 (ls' := [(5, vi (x5 + 1)), (4, vi 0), (0, .ref 256), (1, vi x1), (2, vi x2), (3, vi x3)]) rfl (by decide) rfl ?_
              refine x_goto k201_63 (t := 6) rfl ?_
              refine x_ls (l := [(0, .ref 256), (1, vi x1), (2, vi x2), (3, vi x3), (4, vi 0), (5, vi (x5 + 1))]) (show ([0, 1, 2, 3, 4, 5] : List Nat).Nodup from by decide +kernel) ⟨rfl, rfl, rfl, rfl, rfl, rfl, trivial⟩ ?_
              exact ih s x1 x2 x3 0 (x5 + 1) hG f (by first | exact x_rb b_x1 rfl rfl | exact ⟨by omega, by omega⟩) (by first | exact x_rb b_x2 rfl rfl | exact ⟨by omega, by omega⟩) (by first | exact x_rb b_x3 rfl rfl | exact ⟨by omega, by omega⟩) ⟨by decide, by decide⟩ ⟨by omega, by omega⟩ (by omega)  (by omega)
            · skip
              refine x_A k201_53 (fun _ => rfl) ?_
              refine x_goto k201_54 (t := 58) rfl ?_
              refine x_istore k201_58 (ls' := [(4, vi 1), (0, .ref 256), (1, vi x1), (2, vi x2), (3, vi x3), (5, vi x5)]) (by decide) rfl ?_
              refine x_iinc k201_60 (ls' := [(5, vi (x5 + 1)), (4, vi 1), (0, .ref 256), (1, vi x1), (2, vi x2), (3, vi x3)]) rfl (by decide) rfl ?_
              refine x_goto k201_63 (t := 6) rfl ?_
              refine x_ls (l := [(0, .ref 256), (1, vi x1), (2, vi x2), (3, vi x3), (4, vi 1), (5, vi (x5 + 1))]) (show ([0, 1, 2, 3, 4, 5] : List Nat).Nodup from by decide +kernel) ⟨rfl, rfl, rfl, rfl, rfl, rfl, trivial⟩ ?_
              exact ih s x1 x2 x3 1 (x5 + 1) hG f (by first | exact x_rb b_x1 rfl rfl | exact ⟨by omega, by omega⟩) (by first | exact x_rb b_x2 rfl rfl | exact ⟨by omega, by omega⟩) (by first | exact x_rb b_x3 rfl rfl | exact ⟨by omega, by omega⟩) ⟨by decide, by decide⟩ ⟨by omega, by omega⟩ (by omega)  (by omega)
theorem C_X11_hasHand_256 (s0 : xS) (hG0 : GI s0) (a : Int) (b_a : (-2147483648) ≤ a ∧ a ≤ 2147483647) (b : Int) (b_b : (-2147483648) ≤ b ∧ b ≤ 2147483647) (d : Int) (b_d : (-2147483648) ≤ d ∧ d ≤ 2147483647) : xe none 201 0 (lv_args 0 [.ref 256, vi a, vi b, vi d]) [] s0 0 0 (fun s' v => GI s' ∧ FL [] s0 s' ∧ ∃ z, v = some (vi z) ∧ (0 ≤ z ∧ z ≤ 1)) := by
  have f0 : FL [] s0 s0 := FL.rf
  show xe none 201 0 [(0, .ref 256), (1, vi a), (2, vi b), (3, vi d)] [] s0 0 0 _
  refine x_A k201_0 (fun _ => rfl) ?_
  refine x_istore k201_1 (ls' := [(4, vi 0), (0, .ref 256), (1, vi a), (2, vi b), (3, vi d)]) (by decide) rfl ?_
  refine x_A k201_3 (fun _ => rfl) ?_
  refine x_istore k201_4 (ls' := [(5, vi 0), (4, vi 0), (0, .ref 256), (1, vi a), (2, vi b), (3, vi d)]) (by decide) rfl ?_
  refine x_ls (l := [(0, .ref 256), (1, vi a), (2, vi b), (3, vi d), (4, vi 0), (5, vi 0)]) (show ([0, 1, 2, 3, 4, 5] : List Nat).Nodup from by decide +kernel) ⟨rfl, rfl, rfl, rfl, rfl, rfl, trivial⟩ ?_
  exact L_C_X11_hasHand_256_6 s0   (((120 - 0) + 1 : Int)).toNat s0 a b d 0 0 hG0 f0 (by first | exact x_rb b_a rfl rfl | exact ⟨by omega, by omega⟩) (by first | exact x_rb b_b rfl rfl | exact ⟨by omega, by omega⟩) (by first | exact x_rb b_d rfl rfl | exact ⟨by omega, by omega⟩) ⟨by decide, by decide⟩ ⟨by decide, by decide⟩ (by omega)  (by omega)
theorem C_X11_tell_256 (s0 : xS) (hG0 : GI s0) (a : Int) (b_a : (-1) ≤ a ∧ a ≤ 39) (p_256_1 : 1 ≤ s0 256 1 ∧ s0 256 1 ≤ 39) : xe none 139 0 (lv_args 0 [.ref 256, vi a]) [] s0 0 0 (fun s' v => GI s' ∧ FL [4098, 4160, 4224, 4288, 4352] s0 s' ∧ v = none) := by
  have f0 : FL [4098, 4160, 4224, 4288, 4352] s0 s0 := FL.rf
  show xe none 139 0 [(0, .ref 256), (1, vi a)] [] s0 0 0 _
  obtain ⟨z1, e_z1⟩ : ∃ z, z = s0 256 1 := ⟨_, rfl⟩
  have g_z1 : (1 : Int) ≤ s0 256 1 ∧ s0 256 1 ≤ 40 := hG0 256 1
  refine x_A k139_0 (fun _ => rfl) ?_
  refine x_getR k139_1 (f := 2) rfl (q := 256) (n := 62) (kd := 15) ⟨by decide, rfl⟩ (q2 := 257) (by decide) rfl ?_
  refine x_A k139_4 (fun _ => rfl) ?_
  refine x_getI k139_5 (f := 1) rfl (q := 256) (n := 62) (kd := 15) ⟨by decide, rfl⟩ (by decide) rfl ?_
  rw [e_z1.symm]
  refine x_A k139_8 (fun _ => rfl) ?_
  refine x_getI k139_9 (f := 0) rfl (q := 256) (n := 62) (kd := 15) ⟨by decide, rfl⟩ (by decide) rfl ?_
  refine x_top (fun z2 e_z2 => ?_)
  have g_z2 : (0 : Int) ≤ s0 256 0 ∧ s0 256 0 ≤ 9 := hG0 256 0
  refine x_iast k139_12 (q := 257) (n := 40) ⟨by decide, rfl⟩ (by decide) (by first | exact x_rbel e_z1 g_z1 rfl rfl | exact x_rbl g_z1 rfl rfl | exact ⟨by omega, by omega⟩) ?_
  refine x_nh (fun s3 e_s3 => ?_)
  have hG_s3 : GI s3 := by rw [e_s3]; exact hG0.up (show 0 ≤ z2 ∧ z2 ≤ 9 from (by first | exact x_rbe e_z2 g_z2 rfl rfl | exact x_rb g_z2 rfl rfl | exact ⟨by omega, by omega⟩))
  have f_s3 : FL [4098, 4160, 4224, 4288, 4352] s0 s3 := by rw [e_s3]; exact f0.up (show 4160 ∈ [4098, 4160, 4224, 4288, 4352] from by decide +kernel)
  have q4 : s3 256 1 = z1 := by rw [e_s3, x_up_q (by decide)]; exact e_z1.symm
  have q5 : s3 256 0 = z2 := by rw [e_s3, x_up_q (by decide)]; exact e_z2.symm
  have q6 : s3 257 z1.toNat = z2 := by rw [e_s3]; exact x_up_same
  refine x_A k139_13 (fun _ => rfl) ?_
  refine x_getR k139_14 (f := 3) rfl (q := 256) (n := 62) (kd := 15) ⟨by decide, rfl⟩ (q2 := 258) (by decide) rfl ?_
  refine x_A k139_17 (fun _ => rfl) ?_
  refine x_getI k139_18 (f := 1) rfl (q := 256) (n := 62) (kd := 15) ⟨by decide, rfl⟩ (by decide) rfl ?_
  rw [q4]
  refine x_A k139_21 (fun _ => rfl) ?_
  refine x_iast k139_22 (q := 258) (n := 40) ⟨by decide, rfl⟩ (by decide) (by first | exact x_rbel e_z1 g_z1 rfl rfl | exact x_rbl g_z1 rfl rfl | exact ⟨by omega, by omega⟩) ?_
  refine x_nh (fun s7 e_s7 => ?_)
  have hG_s7 : GI s7 := by rw [e_s7]; exact hG_s3.up (show (-1) ≤ (-1) ∧ (-1) ≤ 9 from ⟨by decide, by decide⟩)
  have f_s7 : FL [4098, 4160, 4224, 4288, 4352] s0 s7 := by rw [e_s7]; exact f_s3.up (show 4224 ∈ [4098, 4160, 4224, 4288, 4352] from by decide +kernel)
  have q8 : s7 256 1 = z1 := by rw [e_s7, x_up_q (by decide)]; exact q4
  have q9 : s7 256 0 = z2 := by rw [e_s7, x_up_q (by decide)]; exact q5
  have q10 : s7 257 z1.toNat = z2 := by rw [e_s7, x_up_q (by first | decide | omega)]; exact q6
  have q11 : s7 258 z1.toNat = (-1) := by rw [e_s7]; exact x_up_same
  refine x_A k139_23 (fun _ => rfl) ?_
  refine x_getR k139_24 (f := 4) rfl (q := 256) (n := 62) (kd := 15) ⟨by decide, rfl⟩ (q2 := 259) (by decide) rfl ?_
  refine x_A k139_27 (fun _ => rfl) ?_
  refine x_getI k139_28 (f := 1) rfl (q := 256) (n := 62) (kd := 15) ⟨by decide, rfl⟩ (by decide) rfl ?_
  rw [q8]
  refine x_A k139_31 (fun _ => rfl) ?_
  refine x_iast k139_32 (q := 259) (n := 40) ⟨by decide, rfl⟩ (by decide) (by first | exact x_rbel e_z1 g_z1 rfl rfl | exact x_rbl g_z1 rfl rfl | exact ⟨by omega, by omega⟩) ?_
  refine x_nh (fun s12 e_s12 => ?_)
  have hG_s12 : GI s12 := by rw [e_s12]; exact hG_s7.up (show (-1) ≤ (-1) ∧ (-1) ≤ 39 from ⟨by decide, by decide⟩)
  have f_s12 : FL [4098, 4160, 4224, 4288, 4352] s0 s12 := by rw [e_s12]; exact f_s7.up (show 4288 ∈ [4098, 4160, 4224, 4288, 4352] from by decide +kernel)
  have q13 : s12 256 1 = z1 := by rw [e_s12, x_up_q (by decide)]; exact q8
  have q14 : s12 256 0 = z2 := by rw [e_s12, x_up_q (by decide)]; exact q9
  have q15 : s12 257 z1.toNat = z2 := by rw [e_s12, x_up_q (by first | decide | omega)]; exact q10
  have q16 : s12 258 z1.toNat = (-1) := by rw [e_s12, x_up_q (by first | decide | omega)]; exact q11
  have q17 : s12 259 z1.toNat = (-1) := by rw [e_s12]; exact x_up_same
  refine x_A k139_33 (fun _ => rfl) ?_
  refine x_A k139_34 (fun _ => rfl) ?_
  refine x_getI k139_35 (f := 1) rfl (q := 256) (n := 62) (kd := 15) ⟨by decide, rfl⟩ (by decide) rfl ?_
  rw [q13]
  refine x_A k139_38 (fun _ => rfl) ?_
  refine x_iadd k139_39 ?_
  refine x_top (fun z18 e_z18 => ?_)
  refine x_putI k139_40 (f := 1) rfl (q := 256) (n := 62) (kd := 15) ⟨by decide, rfl⟩ rfl rfl rfl ?_
  refine x_nh (fun s19 e_s19 => ?_)
  have hG_s19 : GI s19 := by rw [e_s19]; exact hG_s12.up (show 1 ≤ z18 ∧ z18 ≤ 40 from (by first | exact x_rbe e_z18 g_z18 rfl rfl | exact x_rb g_z18 rfl rfl | exact ⟨by omega, by omega⟩))
  have f_s19 : FL [4098, 4160, 4224, 4288, 4352] s0 s19 := by rw [e_s19]; exact f_s12.up (show 4098 ∈ [4098, 4160, 4224, 4288, 4352] from by decide +kernel)
  have q20 : s19 256 0 = z2 := by rw [e_s19, x_up_i (by decide)]; exact q14
  have q21 : s19 256 1 = z18 := by rw [e_s19]; exact x_up_same
  have q22 : s19 257 z1.toNat = z2 := by rw [e_s19, x_up_q (by first | decide | omega)]; exact q15
  have q23 : s19 258 z1.toNat = (-1) := by rw [e_s19, x_up_q (by first | decide | omega)]; exact q16
  have q24 : s19 259 z1.toNat = (-1) := by rw [e_s19, x_up_q (by first | decide | omega)]; exact q17
  refine x_A k139_43 (fun _ => rfl) ?_
  refine x_A k139_44 (fun _ => rfl) ?_
  refine x_getI k139_45 (f := 1) rfl (q := 256) (n := 62) (kd := 15) ⟨by decide, rfl⟩ (by decide) rfl ?_
  rw [q21]
  refine x_A k139_48 (fun _ => rfl) ?_
  refine x_isub k139_49 ?_
  refine x_top (fun z25 e_z25 => ?_)
  refine x_A k139_50 (fun _ => rfl) ?_
  refine x_callV k139_51 (y := 140) (n := 2) (w0 := 0) (w1 := 2) (as := [vi z25, vi a]) (rest := []) (by decide +kernel) (q := 256) (nq := 62) (kq := 15) ⟨by decide, rfl⟩ rfl rfl rfl rfl (xe_mono (C_X11_hang_256 s19 hG_s19 z25 (by first | exact x_rbe e_z25 g_z25 rfl rfl | exact x_rb g_z25 rfl rfl | exact ⟨by omega, by omega⟩) a (by first | exact x_rb b_a rfl rfl | exact ⟨by omega, by omega⟩)) ?_)
  rintro s27 v ⟨hG_s27, t_s27, rfl⟩
  have f_s27 : FL [4098, 4160, 4224, 4288, 4352] s0 s27 := f_s19.tr t_s27 (by decide +kernel)
  have q28 : s27 256 0 = z2 := (t_s27 256 0 (show 4097 ∉ [4352] from by decide +kernel)).trans q20
  have q29 : s27 256 1 = z18 := (t_s27 256 1 (show 4098 ∉ [4352] from by decide +kernel)).trans q21
  have q30 : s27 257 z1.toNat = z2 := (t_s27 257 z1.toNat (show 4160 ∉ [4352] from by decide +kernel)).trans q22
  have q31 : s27 258 z1.toNat = (-1) := (t_s27 258 z1.toNat (show 4224 ∉ [4352] from by decide +kernel)).trans q23
  have q32 : s27 259 z1.toNat = (-1) := (t_s27 259 z1.toNat (show 4288 ∉ [4352] from by decide +kernel)).trans q24
  show xe none 139 54 [(0, .ref 256), (1, vi a)] [] s27 0 0 _
  exact x_vret k139_54 rfl ⟨hG_s27, f_s27, rfl⟩
theorem C_X11_mark_256 (s0 : xS) (hG0 : GI s0) (a : Int) (b_a : (-2147483648) ≤ a ∧ a ≤ 2147483647) : xe none 146 0 (lv_args 0 [.ref 256, vi a]) [] s0 0 0 (fun s' v => GI s' ∧ FL [4098, 4160, 4224, 4288, 4352] s0 s' ∧ ∃ z, v = some (vi z) ∧ ((-1004) ≤ z ∧ z ≤ 39)) := by
  have f0 : FL [4098, 4160, 4224, 4288, 4352] s0 s0 := FL.rf
  show xe none 146 0 [(0, .ref 256), (1, vi a)] [] s0 0 0 _
  refine x_A k146_0 (fun _ => rfl) ?_
  refine x_A k146_1 (fun _ => rfl) ?_
  obtain ⟨z1, e_z1⟩ : ∃ z, z = s0 256 1 := ⟨_, rfl⟩
  have g_z1 : (1 : Int) ≤ s0 256 1 ∧ s0 256 1 ≤ 40 := hG0 256 1
  refine x_callV k146_2 (y := 137) (n := 1) (w0 := 0) (w1 := 1) (as := [vi a]) (rest := []) (by decide +kernel) (q := 256) (nq := 62) (kq := 15) ⟨by decide, rfl⟩ rfl rfl rfl rfl (xe_mono (C_X11_isMark_256 s0 hG0 a (by first | exact x_rb b_a rfl rfl | exact ⟨by omega, by omega⟩)) ?_)
  rintro s3 v ⟨h_s3, z2, rfl, hz_z2⟩
  rw [h_s3]
  rcases hz_z2 with ⟨c_z2, e_z2⟩ | ⟨c_z2, e_z2⟩
  · rw [e_z2]
    show xe none 146 5 [(0, .ref 256), (1, vi a)] [vi 1] s0 0 0 _
    refine x_if_ne k146_5 (t := 12) rfl ⟨by decide, by decide⟩ (fun c4 => ?_) (fun c4 => by exfalso; omega)
    refine x_A k146_12 (fun _ => rfl) ?_
    refine x_A k146_13 (fun _ => rfl) ?_
    refine x_A k146_14 (fun _ => rfl) ?_
    refine x_getI k146_15 (f := 0) rfl (q := 256) (n := 62) (kd := 15) ⟨by decide, rfl⟩ (by decide) rfl ?_
    refine x_top (fun z5 e_z5 => ?_)
    have g_z5 : (0 : Int) ≤ s0 256 0 ∧ s0 256 0 ≤ 9 := hG0 256 0
    refine x_callV k146_18 (y := 142) (n := 2) (w0 := 0) (w1 := 2) (as := [vi a, vi z5]) (rest := []) (by decide +kernel) (q := 256) (nq := 62) (kq := 15) ⟨by decide, rfl⟩ rfl rfl rfl rfl (xe_mono (C_X11_isThere_256 s0 hG0 a (by first | exact x_rb b_a rfl rfl | exact ⟨by omega, by omega⟩) z5 (by first | exact x_rbe e_z5 g_z5 rfl rfl | exact x_rb g_z5 rfl rfl | exact ⟨by omega, by omega⟩)) ?_)
    rintro s7 v ⟨h_s7, z6, rfl, hz_z6⟩
    rw [h_s7]
    rcases hz_z6 with ⟨c_z6, e_z6, m_z6⟩ | ⟨e_z6, m_z6⟩
    · rw [e_z6]
      show xe none 146 21 [(0, .ref 256), (1, vi a)] [vi 1] s0 0 0 _
      refine x_if_ne k146_21 (t := 28) rfl ⟨by decide, by decide⟩ (fun c8 => ?_) (fun c8 => by exfalso; omega)
      refine x_A k146_28 (fun _ => rfl) ?_
      refine x_getI k146_29 (f := 1) rfl (q := 256) (n := 62) (kd := 15) ⟨by decide, rfl⟩ (by decide) rfl ?_
      rw [e_z1.symm]
      refine x_bipush k146_32 (by decide +kernel) ?_
      refine x_ic_ne k146_34 (t := 41) rfl (by first | exact x_rbe e_z1 g_z1 rfl rfl | exact x_rb g_z1 rfl rfl | exact ⟨by omega, by omega⟩) ⟨by decide, by decide⟩ (fun c9 => ?_) (fun c9 => ?_)
      · skip
        refine x_A k146_41 (fun _ => rfl) ?_
        refine x_A k146_42 (fun _ => rfl) ?_
        refine x_callV k146_43 (y := 139) (n := 1) (w0 := 0) (w1 := 1) (as := [vi a]) (rest := []) (by decide +kernel) (q := 256) (nq := 62) (kq := 15) ⟨by decide, rfl⟩ rfl rfl rfl rfl (xe_mono (C_X11_tell_256 s0 hG0 a (by first | exact x_rb b_a rfl rfl | exact ⟨by omega, by omega⟩) ⟨by omega, by omega⟩) ?_)
        rintro s11 v ⟨hG_s11, t_s11, rfl⟩
        have f_s11 : FL [4098, 4160, 4224, 4288, 4352] s0 s11 := f0.tr t_s11 (by decide +kernel)
        have q12 : s11 256 0 = z5 := (t_s11 256 0 (show 4097 ∉ [4098, 4160, 4224, 4288, 4352] from by decide +kernel)).trans e_z5.symm
        show xe none 146 46 [(0, .ref 256), (1, vi a)] [] s11 0 0 _
        refine x_A k146_46 (fun _ => rfl) ?_
        refine x_getI k146_47 (f := 1) rfl (q := 256) (n := 62) (kd := 15) ⟨by decide, rfl⟩ (by decide) rfl ?_
        refine x_top (fun z13 e_z13 => ?_)
        have g_z13 : (1 : Int) ≤ s11 256 1 ∧ s11 256 1 ≤ 40 := hG_s11 256 1
        refine x_A k146_50 (fun _ => rfl) ?_
        refine x_isub k146_51 ?_
        refine x_top (fun z14 e_z14 => ?_)
        exact x_iret k146_52 rfl ⟨hG_s11, f_s11, z14, rfl, (by first | exact x_rbe e_z14 g_z14 rfl rfl | exact x_rb g_z14 rfl rfl | exact ⟨by omega, by omega⟩)⟩
      · skip
        refine x_sipush k146_37 (by decide +kernel) ?_
        exact x_iret k146_40 rfl ⟨hG0, f0, (-1004), rfl, ⟨by decide, by decide⟩⟩
    · rw [e_z6]
      show xe none 146 21 [(0, .ref 256), (1, vi a)] [vi 0] s0 0 0 _
      refine x_if_ne k146_21 (t := 28) rfl ⟨by decide, by decide⟩ (fun c15 => by exfalso; omega) (fun c15 => ?_)
      refine x_sipush k146_24 (by decide +kernel) ?_
      exact x_iret k146_27 rfl ⟨hG0, f0, (-1003), rfl, ⟨by decide, by decide⟩⟩
  · rw [e_z2]
    show xe none 146 5 [(0, .ref 256), (1, vi a)] [vi 0] s0 0 0 _
    refine x_if_ne k146_5 (t := 12) rfl ⟨by decide, by decide⟩ (fun c16 => by exfalso; omega) (fun c16 => ?_)
    refine x_sipush k146_8 (by decide +kernel) ?_
    exact x_iret k146_11 rfl ⟨hG0, f0, (-1001), rfl, ⟨by decide, by decide⟩⟩
theorem C_X10_moment_0 (s0 : xS) (hG0 : GI s0) (a : Int) (b_a : (-2147483648) ≤ a ∧ a ≤ 2147483647) (b : Int) (b_b : (-2147483648) ≤ b ∧ b ≤ 2147483647) (d : Int) (b_d : (-2147483648) ≤ d ∧ d ≤ 2147483647) : xe none 118 0 (lv_args 0 [.ref 0, vi a, vi b, vi d]) [] s0 0 0 (fun s' v => GI s' ∧ FL [2944, 3072, 3200] s0 s' ∧ ∃ z, v = some (vi z) ∧ ((-1004) ≤ z ∧ z ≤ 3)) := by
  have f0 : FL [2944, 3072, 3200] s0 s0 := FL.rf
  show xe none 118 0 [(0, .ref 0), (1, vi a), (2, vi b), (3, vi d)] [] s0 0 0 _
  refine x_A k118_0 (fun _ => rfl) ?_
  refine x_getR k118_1 (f := 8) rfl (q := 0) (n := 12) (kd := 3) ⟨by decide, rfl⟩ (q2 := 231) (by decide) rfl ?_
  refine x_A k118_4 (fun _ => rfl) ?_
  obtain ⟨z1, e_z1⟩ : ∃ z, z = s0 231 3 := ⟨_, rfl⟩
  have g_z1 : (0 : Int) ≤ s0 231 3 ∧ s0 231 3 ≤ 4 := hG0 231 3
  refine x_callV k118_5 (y := 43) (n := 1) (w0 := 0) (w1 := 1) (as := [vi a]) (rest := []) (by decide +kernel) (q := 231) (nq := 4) (kq := 12) ⟨by decide, rfl⟩ rfl rfl rfl rfl (xe_mono (C_X5_has_231 s0 hG0 a (by first | exact x_rb b_a rfl rfl | exact ⟨by omega, by omega⟩)) ?_)
  rintro s3 v ⟨h_s3, z2, rfl, hz_z2⟩
  rw [h_s3]
  rcases hz_z2 with ⟨c_z2, e_z2⟩ | ⟨c_z2, e_z2⟩
  · rw [e_z2]
    show xe none 118 8 [(0, .ref 0), (1, vi a), (2, vi b), (3, vi d)] [vi 1] s0 0 0 _
    refine x_if_eq k118_8 (t := 22) rfl ⟨by decide, by decide⟩ (fun c4 => by exfalso; omega) (fun c4 => ?_)
    refine x_A k118_11 (fun _ => rfl) ?_
    refine x_getR k118_12 (f := 0) rfl (q := 0) (n := 12) (kd := 3) ⟨by decide, rfl⟩ (q2 := 1) (by decide) rfl ?_
    refine x_A k118_15 (fun _ => rfl) ?_
    obtain ⟨z5, e_z5⟩ : ∃ z, z = s0 1 4 := ⟨_, rfl⟩
    have g_z5 : (1 : Int) ≤ s0 1 4 ∧ s0 1 4 ≤ 40 := hG0 1 4
    refine x_callV k118_16 (y := 59) (n := 1) (w0 := 0) (w1 := 1) (as := [vi d]) (rest := []) (by decide +kernel) (q := 1) (nq := 5) (kq := 4) ⟨by decide, rfl⟩ rfl rfl rfl rfl (xe_mono (C_X7_has_1 s0 hG0 d (by first | exact x_rb b_d rfl rfl | exact ⟨by omega, by omega⟩)) ?_)
    rintro s7 v ⟨h_s7, z6, rfl, hz_z6⟩
    rw [h_s7]
    rcases hz_z6 with ⟨c_z6, e_z6⟩ | ⟨c_z6, e_z6⟩
    · rw [e_z6]
      show xe none 118 19 [(0, .ref 0), (1, vi a), (2, vi b), (3, vi d)] [vi 1] s0 0 0 _
      refine x_if_ne k118_19 (t := 26) rfl ⟨by decide, by decide⟩ (fun c8 => ?_) (fun c8 => by exfalso; omega)
      refine x_A k118_26 (fun _ => rfl) ?_
      refine x_A k118_27 (fun _ => rfl) ?_
      refine x_A k118_28 (fun _ => rfl) ?_
      refine x_getR k118_29 (f := 8) rfl (q := 0) (n := 12) (kd := 3) ⟨by decide, rfl⟩ (q2 := 231) (by decide) rfl ?_
      refine x_getR k118_32 (f := 0) rfl (q := 231) (n := 4) (kd := 12) ⟨by decide, rfl⟩ (q2 := 232) (by decide) rfl ?_
      refine x_A k118_35 (fun _ => rfl) ?_
      refine x_iald k118_36 (q := 232) (n := 4) ⟨by decide, rfl⟩ (by decide) (by first | exact x_rbl b_a rfl rfl | exact ⟨by omega, by omega⟩) ?_
      refine x_top (fun z9 e_z9 => ?_)
      have g_z9 : (0 : Int) ≤ s0 232 a.toNat ∧ s0 232 a.toNat ≤ 5 := hG0 232 a.toNat
      refine x_callS k118_37 (y := 121) (n := 3) (w0 := 0) (w1 := 3) (as := [vi b, vi 0, vi z9]) (rest := []) (by decide +kernel) rfl rfl rfl rfl (xe_mono (C_X10_isWithin s0 hG0 b (by first | exact x_rb b_b rfl rfl | exact ⟨by omega, by omega⟩) 0 ⟨by decide, by decide⟩ z9 (by first | exact x_rbe e_z9 g_z9 rfl rfl | exact x_rb g_z9 rfl rfl | exact ⟨by omega, by omega⟩)) ?_)
      rintro s11 v ⟨h_s11, z10, rfl, hz_z10⟩
      rw [h_s11]
      rcases hz_z10 with ⟨c_z10, e_z10⟩ | ⟨c_z10, e_z10⟩
      · rw [e_z10]
        show xe none 118 40 [(0, .ref 0), (1, vi a), (2, vi b), (3, vi d)] [vi 1] s0 0 0 _
        refine x_if_ne k118_40 (t := 47) rfl ⟨by decide, by decide⟩ (fun c12 => ?_) (fun c12 => by exfalso; omega)
        refine x_A k118_47 (fun _ => rfl) ?_
        refine x_getR k118_48 (f := 8) rfl (q := 0) (n := 12) (kd := 3) ⟨by decide, rfl⟩ (q2 := 231) (by decide) rfl ?_
        refine x_A k118_51 (fun _ => rfl) ?_
        refine x_A k118_52 (fun _ => rfl) ?_
        refine x_A k118_53 (fun _ => rfl) ?_
        refine x_callV k118_54 (y := 45) (n := 3) (w0 := 0) (w1 := 3) (as := [vi a, vi b, vi d]) (rest := []) (by decide +kernel) (q := 231) (nq := 4) (kq := 12) ⟨by decide, rfl⟩ rfl rfl rfl rfl (xe_mono (C_X5_addMark_231 s0 hG0 a (by first | exact x_rb b_a rfl rfl | exact ⟨by omega, by omega⟩) b (by first | exact x_rb b_b rfl rfl | exact ⟨by omega, by omega⟩) d (by first | exact x_rb b_d rfl rfl | exact ⟨by omega, by omega⟩)) ?_)
        rintro s14 v ⟨hG_s14, t_s14, z13, rfl, g_z13⟩
        have f_s14 : FL [2944, 3072, 3200] s0 s14 := f0.tr t_s14 (by decide +kernel)
        have q15 : s14 231 3 = z1 := (t_s14 231 3 (show 2884 ∉ [2944, 3072, 3200] from by decide +kernel)).trans e_z1.symm
        have q16 : s14 1 4 = z5 := (t_s14 1 4 (show 69 ∉ [2944, 3072, 3200] from by decide +kernel)).trans e_z5.symm
        show xe none 118 57 [(0, .ref 0), (1, vi a), (2, vi b), (3, vi d)] [vi z13] s14 0 0 _
        exact x_iret k118_57 rfl ⟨hG_s14, f_s14, z13, rfl, (by first | exact x_rbe e_z13 g_z13 rfl rfl | exact x_rb g_z13 rfl rfl | exact ⟨by omega, by omega⟩)⟩
      · rw [e_z10]
        show xe none 118 40 [(0, .ref 0), (1, vi a), (2, vi b), (3, vi d)] [vi 0] s0 0 0 _
        refine x_if_ne k118_40 (t := 47) rfl ⟨by decide, by decide⟩ (fun c17 => by exfalso; omega) (fun c17 => ?_)
        refine x_sipush k118_43 (by decide +kernel) ?_
        exact x_iret k118_46 rfl ⟨hG0, f0, (-1002), rfl, ⟨by decide, by decide⟩⟩
    · rw [e_z6]
      show xe none 118 19 [(0, .ref 0), (1, vi a), (2, vi b), (3, vi d)] [vi 0] s0 0 0 _
      refine x_if_ne k118_19 (t := 26) rfl ⟨by decide, by decide⟩ (fun c18 => by exfalso; omega) (fun c18 => ?_)
      refine x_sipush k118_22 (by decide +kernel) ?_
      exact x_iret k118_25 rfl ⟨hG0, f0, (-1001), rfl, ⟨by decide, by decide⟩⟩
  · rw [e_z2]
    show xe none 118 8 [(0, .ref 0), (1, vi a), (2, vi b), (3, vi d)] [vi 0] s0 0 0 _
    refine x_if_eq k118_8 (t := 22) rfl ⟨by decide, by decide⟩ (fun c19 => ?_) (fun c19 => by exfalso; omega)
    refine x_sipush k118_22 (by decide +kernel) ?_
    exact x_iret k118_25 rfl ⟨hG0, f0, (-1001), rfl, ⟨by decide, by decide⟩⟩
theorem L_C_X11_word_256_27 (s0 : xS)   : ∀ (n : Nat) (s : xS) (x1 : Int) (x2 : Int) (x3 : Int) (x4 : Int) (hG : GI s) (f : FL [4137, 5888, 5952] s0 s) (b_x1 : 0 ≤ x1 ∧ x1 ≤ 3) (b_x2 : 0 ≤ x2 ∧ x2 ≤ 99) (b_x3 : 0 ≤ x3 ∧ x3 ≤ 39) (b_x4 : 0 ≤ x4 ∧ x4 ≤ 60)  (hm : (60 - x4) < (n : Int)), xe none 192 27 [(0, .ref 256), (1, vi x1), (2, vi x2), (3, vi x3), (4, vi x4)] [] s 0 0 (fun s' v => GI s' ∧ FL [4137, 5888, 5952] s0 s' ∧ ∃ z, v = some (vi z) ∧ ((-1004) ≤ z ∧ z ≤ 60)) := by
  intro n
  induction n with
  | zero => intro s x1 x2 x3 x4 hG f b_x1 b_x2 b_x3 b_x4  hm; exfalso; omega
  | succ n ih =>
    intro s x1 x2 x3 x4 hG f b_x1 b_x2 b_x3 b_x4  hm
    refine x_A k192_27 (fun _ => rfl) ?_
    refine x_A k192_29 (fun _ => rfl) ?_
    refine x_getI k192_30 (f := 40) rfl (q := 256) (n := 62) (kd := 15) ⟨by decide, rfl⟩ (by decide) rfl ?_
    refine x_top (fun z502 e_z502 => ?_)
    have g_z502 : (0 : Int) ≤ s 256 40 ∧ s 256 40 ≤ 60 := hG 256 40
    refine x_ic_ge k192_33 (t := 73) rfl (by first | exact x_rb b_x4 rfl rfl | exact ⟨by omega, by omega⟩) (by first | exact x_rbe e_z502 g_z502 rfl rfl | exact x_rb g_z502 rfl rfl | exact ⟨by omega, by omega⟩) (fun c503 => ?_) (fun c503 => ?_)
    · skip
      refine x_A k192_73 (fun _ => rfl) ?_
      refine x_getI k192_74 (f := 40) rfl (q := 256) (n := 62) (kd := 15) ⟨by decide, rfl⟩ (by decide) rfl ?_
      rw [e_z502.symm]
      refine x_bipush k192_77 (by decide +kernel) ?_
      refine x_ic_ne k192_79 (t := 86) rfl (by first | exact x_rbe e_z502 g_z502 rfl rfl | exact x_rb g_z502 rfl rfl | exact ⟨by omega, by omega⟩) ⟨by decide, by decide⟩ (fun c504 => ?_) (fun c504 => ?_)
      · skip
        refine x_A k192_86 (fun _ => rfl) ?_
        refine x_getR k192_87 (f := 41) rfl (q := 256) (n := 62) (kd := 15) ⟨by decide, rfl⟩ (q2 := 284) (by decide) rfl ?_
        refine x_A k192_90 (fun _ => rfl) ?_
        refine x_getI k192_91 (f := 40) rfl (q := 256) (n := 62) (kd := 15) ⟨by decide, rfl⟩ (by decide) rfl ?_
        rw [e_z502.symm]
        refine x_bipush k192_94 (by decide +kernel) ?_
        refine x_A k192_96 (fun _ => rfl) ?_
        refine x_imul k192_97 ?_
        refine x_top (fun z505 e_z505 => ?_)
        refine x_A k192_98 (fun _ => rfl) ?_
        refine x_iadd k192_99 ?_
        refine x_top (fun z506 e_z506 => ?_)
        refine x_iast k192_100 (q := 284) (n := 60) ⟨by decide, rfl⟩ (by decide) (by first | exact x_rbel e_z502 g_z502 rfl rfl | exact x_rbl g_z502 rfl rfl | exact ⟨by omega, by omega⟩) ?_
        refine x_nh (fun s507 e_s507 => ?_)
        have hG_s507 : GI s507 := by rw [e_s507]; exact hG.up (show 0 ≤ z506 ∧ z506 ≤ 399 from (by first | exact x_rbe e_z506 g_z506 rfl rfl | exact x_rb g_z506 rfl rfl | exact ⟨by omega, by omega⟩))
        have f_s507 : FL [4137, 5888, 5952] s0 s507 := by rw [e_s507]; exact f.up (show 5888 ∈ [4137, 5888, 5952] from by decide +kernel)
        have q508 : s507 256 40 = z502 := by rw [e_s507, x_up_q (by decide)]; exact e_z502.symm
        have q509 : s507 284 z502.toNat = z506 := by rw [e_s507]; exact x_up_same
        refine x_A k192_101 (fun _ => rfl) ?_
        refine x_getR k192_102 (f := 42) rfl (q := 256) (n := 62) (kd := 15) ⟨by decide, rfl⟩ (q2 := 285) (by decide) rfl ?_
        refine x_A k192_105 (fun _ => rfl) ?_
        refine x_getI k192_106 (f := 40) rfl (q := 256) (n := 62) (kd := 15) ⟨by decide, rfl⟩ (by decide) rfl ?_
        rw [q508]
        refine x_A k192_109 (fun _ => rfl) ?_
        refine x_iast k192_110 (q := 285) (n := 60) ⟨by decide, rfl⟩ (by decide) (by first | exact x_rbel e_z502 g_z502 rfl rfl | exact x_rbl g_z502 rfl rfl | exact ⟨by omega, by omega⟩) ?_
        refine x_nh (fun s510 e_s510 => ?_)
        have hG_s510 : GI s510 := by rw [e_s510]; exact hG_s507.up (show 0 ≤ x3 ∧ x3 ≤ 39 from (by first | exact x_rb b_x3 rfl rfl | exact ⟨by omega, by omega⟩))
        have f_s510 : FL [4137, 5888, 5952] s0 s510 := by rw [e_s510]; exact f_s507.up (show 5952 ∈ [4137, 5888, 5952] from by decide +kernel)
        have q511 : s510 256 40 = z502 := by rw [e_s510, x_up_q (by decide)]; exact q508
        have q512 : s510 284 z502.toNat = z506 := by rw [e_s510, x_up_q (by first | decide | omega)]; exact q509
        have q513 : s510 285 z502.toNat = x3 := by rw [e_s510]; exact x_up_same
        refine x_A k192_111 (fun _ => rfl) ?_
        refine x_A k192_112 (fun _ => rfl) ?_
        refine x_getI k192_113 (f := 40) rfl (q := 256) (n := 62) (kd := 15) ⟨by decide, rfl⟩ (by decide) rfl ?_
        rw [q511]
        refine x_A k192_116 (fun _ => rfl) ?_
        refine x_iadd k192_117 ?_
        refine x_top (fun z514 e_z514 => ?_)
        refine x_putI k192_118 (f := 40) rfl (q := 256) (n := 62) (kd := 15) ⟨by decide, rfl⟩ rfl rfl rfl ?_
        refine x_nh (fun s515 e_s515 => ?_)
        have hG_s515 : GI s515 := by rw [e_s515]; exact hG_s510.up (show 0 ≤ z514 ∧ z514 ≤ 60 from (by first | exact x_rbe e_z514 g_z514 rfl rfl | exact x_rb g_z514 rfl rfl | exact ⟨by omega, by omega⟩))
        have f_s515 : FL [4137, 5888, 5952] s0 s515 := by rw [e_s515]; exact f_s510.up (show 4137 ∈ [4137, 5888, 5952] from by decide +kernel)
        have q516 : s515 256 40 = z514 := by rw [e_s515]; exact x_up_same
        have q517 : s515 284 z502.toNat = z506 := by rw [e_s515, x_up_q (by first | decide | omega)]; exact q512
        have q518 : s515 285 z502.toNat = x3 := by rw [e_s515, x_up_q (by first | decide | omega)]; exact q513
        refine x_A k192_121 (fun _ => rfl) ?_
        refine x_A k192_122 (fun _ => rfl) ?_
        refine x_A k192_123 (fun _ => rfl) ?_
        refine x_callV k192_124 (y := 191) (n := 2) (w0 := 0) (w1 := 2) (as := [vi x1, vi x2]) (rest := []) (by decide +kernel) (q := 256) (nq := 62) (kq := 15) ⟨by decide, rfl⟩ rfl rfl rfl rfl (xe_mono (C_X11_leadsMany_256 s515 hG_s515 x1 (by first | exact x_rb b_x1 rfl rfl | exact ⟨by omega, by omega⟩) x2 (by first | exact x_rb b_x2 rfl rfl | exact ⟨by omega, by omega⟩)) ?_)
        rintro s520 v ⟨-, t_s520, z519, rfl, g_z519⟩
        rw [t_s520.nil]
        show xe none 192 127 [(0, .ref 256), (1, vi x1), (2, vi x2), (3, vi x3), (4, vi x4)] [vi z519] s515 0 0 _
        exact x_iret k192_127 rfl ⟨hG_s515, f_s515, z519, rfl, (by first | exact x_rbe e_z519 g_z519 rfl rfl | exact x_rb g_z519 rfl rfl | exact ⟨by omega, by omega⟩)⟩
      · skip
        refine x_sipush k192_82 (by decide +kernel) ?_
        exact x_iret k192_85 rfl ⟨hG, f, (-1004), rfl, ⟨by decide, by decide⟩⟩
    · skip
      refine x_A k192_36 (fun _ => rfl) ?_
      refine x_getR k192_37 (f := 41) rfl (q := 256) (n := 62) (kd := 15) ⟨by decide, rfl⟩ (q2 := 284) (by decide) rfl ?_
      refine x_A k192_40 (fun _ => rfl) ?_
      refine x_iald k192_42 (q := 284) (n := 60) ⟨by decide, rfl⟩ (by decide) (by first | exact x_rbl b_x4 rfl rfl | exact ⟨by omega, by omega⟩) ?_
      refine x_top (fun z521 e_z521 => ?_)
      have g_z521 : (0 : Int) ≤ s 284 x4.toNat ∧ s 284 x4.toNat ≤ 399 := hG 284 x4.toNat
      refine x_bipush k192_43 (by decide +kernel) ?_
      refine x_A k192_45 (fun _ => rfl) ?_
      refine x_imul k192_46 ?_
      refine x_top (fun z522 e_z522 => ?_)
      refine x_A k192_47 (fun _ => rfl) ?_
      refine x_iadd k192_48 ?_
      refine x_top (fun z523 e_z523 => ?_)
      refine x_ic_ne k192_49 (t := 67) rfl (by first | exact x_rbe e_z521 g_z521 rfl rfl | exact x_rb g_z521 rfl rfl | exact ⟨by omega, by omega⟩) (by first | exact x_rbe e_z523 g_z523 rfl rfl | exact x_rb g_z523 rfl rfl | exact ⟨by omega, by omega⟩) (fun c524 => ?_) (fun c524 => ?_)
      · skip
        refine x_iinc k192_67 (ls' := [(4, vi (x4 + 1)), (0, .ref 256), (1, vi x1), (2, vi x2), (3, vi x3)]) rfl (by decide) rfl ?_
        refine x_goto k192_70 (t := 27) rfl ?_
        refine x_ls (l := [(0, .ref 256), (1, vi x1), (2, vi x2), (3, vi x3), (4, vi (x4 + 1))]) (show ([0, 1, 2, 3, 4] : List Nat).Nodup from by decide +kernel) ⟨rfl, rfl, rfl, rfl, rfl, trivial⟩ ?_
        exact ih s x1 x2 x3 (x4 + 1) hG f (by first | exact x_rb b_x1 rfl rfl | exact ⟨by omega, by omega⟩) (by first | exact x_rb b_x2 rfl rfl | exact ⟨by omega, by omega⟩) (by first | exact x_rb b_x3 rfl rfl | exact ⟨by omega, by omega⟩) ⟨by omega, by omega⟩  (by omega)
      · skip
        refine x_A k192_52 (fun _ => rfl) ?_
        refine x_getR k192_53 (f := 42) rfl (q := 256) (n := 62) (kd := 15) ⟨by decide, rfl⟩ (q2 := 285) (by decide) rfl ?_
        refine x_A k192_56 (fun _ => rfl) ?_
        refine x_iald k192_58 (q := 285) (n := 60) ⟨by decide, rfl⟩ (by decide) (by first | exact x_rbl b_x4 rfl rfl | exact ⟨by omega, by omega⟩) ?_
        refine x_top (fun z525 e_z525 => ?_)
        have g_z525 : (0 : Int) ≤ s 285 x4.toNat ∧ s 285 x4.toNat ≤ 39 := hG 285 x4.toNat
        refine x_A k192_59 (fun _ => rfl) ?_
        refine x_ic_ne k192_60 (t := 67) rfl (by first | exact x_rbe e_z525 g_z525 rfl rfl | exact x_rb g_z525 rfl rfl | exact ⟨by omega, by omega⟩) (by first | exact x_rb b_x3 rfl rfl | exact ⟨by omega, by omega⟩) (fun c526 => ?_) (fun c526 => ?_)
        · skip
          refine x_iinc k192_67 (ls' := [(4, vi (x4 + 1)), (0, .ref 256), (1, vi x1), (2, vi x2), (3, vi x3)]) rfl (by decide) rfl ?_
          refine x_goto k192_70 (t := 27) rfl ?_
          refine x_ls (l := [(0, .ref 256), (1, vi x1), (2, vi x2), (3, vi x3), (4, vi (x4 + 1))]) (show ([0, 1, 2, 3, 4] : List Nat).Nodup from by decide +kernel) ⟨rfl, rfl, rfl, rfl, rfl, trivial⟩ ?_
          exact ih s x1 x2 x3 (x4 + 1) hG f (by first | exact x_rb b_x1 rfl rfl | exact ⟨by omega, by omega⟩) (by first | exact x_rb b_x2 rfl rfl | exact ⟨by omega, by omega⟩) (by first | exact x_rb b_x3 rfl rfl | exact ⟨by omega, by omega⟩) ⟨by omega, by omega⟩  (by omega)
        · skip
          refine x_sipush k192_63 (by decide +kernel) ?_
          exact x_iret k192_66 rfl ⟨hG, f, (-1003), rfl, ⟨by decide, by decide⟩⟩
theorem C_X11_word_256 (s0 : xS) (hG0 : GI s0) (a : Int) (b_a : (-2147483648) ≤ a ∧ a ≤ 2147483647) (b : Int) (b_b : (-2147483648) ≤ b ∧ b ≤ 2147483647) (d : Int) (b_d : (-2147483648) ≤ d ∧ d ≤ 2147483647) : xe none 192 0 (lv_args 0 [.ref 256, vi a, vi b, vi d]) [] s0 0 0 (fun s' v => GI s' ∧ FL [4137, 5888, 5952] s0 s' ∧ ∃ z, v = some (vi z) ∧ ((-1004) ≤ z ∧ z ≤ 60)) := by
  have f0 : FL [4137, 5888, 5952] s0 s0 := FL.rf
  show xe none 192 0 [(0, .ref 256), (1, vi a), (2, vi b), (3, vi d)] [] s0 0 0 _
  refine x_A k192_0 (fun _ => rfl) ?_
  refine x_A k192_1 (fun _ => rfl) ?_
  obtain ⟨z527, e_z527⟩ : ∃ z, z = s0 256 1 := ⟨_, rfl⟩
  have g_z527 : (1 : Int) ≤ s0 256 1 ∧ s0 256 1 ≤ 40 := hG0 256 1
  refine x_callV k192_2 (y := 137) (n := 1) (w0 := 0) (w1 := 1) (as := [vi d]) (rest := []) (by decide +kernel) (q := 256) (nq := 62) (kq := 15) ⟨by decide, rfl⟩ rfl rfl rfl rfl (xe_mono (C_X11_isMark_256 s0 hG0 d (by first | exact x_rb b_d rfl rfl | exact ⟨by omega, by omega⟩)) ?_)
  rintro s529 v ⟨h_s529, z528, rfl, hz_z528⟩
  rw [h_s529]
  rcases hz_z528 with ⟨c_z528, e_z528⟩ | ⟨c_z528, e_z528⟩
  · rw [e_z528]
    show xe none 192 5 [(0, .ref 256), (1, vi a), (2, vi b), (3, vi d)] [vi 1] s0 0 0 _
    refine x_if_ne k192_5 (t := 12) rfl ⟨by decide, by decide⟩ (fun c530 => ?_) (fun c530 => by exfalso; omega)
    refine x_A k192_12 (fun _ => rfl) ?_
    refine x_A k192_13 (fun _ => rfl) ?_
    refine x_callS k192_14 (y := 190) (n := 2) (w0 := 0) (w1 := 2) (as := [vi a, vi b]) (rest := []) (by decide +kernel) rfl rfl rfl rfl (xe_mono (C_X11_isWord s0 hG0 a (by first | exact x_rb b_a rfl rfl | exact ⟨by omega, by omega⟩) b (by first | exact x_rb b_b rfl rfl | exact ⟨by omega, by omega⟩)) ?_)
    rintro s532 v ⟨h_s532, z531, rfl, hz_z531⟩
    rw [h_s532]
    rcases hz_z531 with ⟨c_z531, e_z531⟩ | ⟨c_z531, e_z531⟩
    · rw [e_z531]
      show xe none 192 17 [(0, .ref 256), (1, vi a), (2, vi b), (3, vi d)] [vi 1] s0 0 0 _
      refine x_if_ne k192_17 (t := 24) rfl ⟨by decide, by decide⟩ (fun c533 => ?_) (fun c533 => by exfalso; omega)
      refine x_A k192_24 (fun _ => rfl) ?_
      refine x_istore k192_25 (ls' := [(4, vi 0), (0, .ref 256), (1, vi a), (2, vi b), (3, vi d)]) (by decide) rfl ?_
      refine x_ls (l := [(0, .ref 256), (1, vi a), (2, vi b), (3, vi d), (4, vi 0)]) (show ([0, 1, 2, 3, 4] : List Nat).Nodup from by decide +kernel) ⟨rfl, rfl, rfl, rfl, rfl, trivial⟩ ?_
      exact L_C_X11_word_256_27 s0   (((60 - 0) + 1 : Int)).toNat s0 a b d 0 hG0 f0 (by first | exact x_rb b_a rfl rfl | exact ⟨by omega, by omega⟩) (by first | exact x_rb b_b rfl rfl | exact ⟨by omega, by omega⟩) (by first | exact x_rb b_d rfl rfl | exact ⟨by omega, by omega⟩) ⟨by decide, by decide⟩  (by omega)
    · rw [e_z531]
      show xe none 192 17 [(0, .ref 256), (1, vi a), (2, vi b), (3, vi d)] [vi 0] s0 0 0 _
      refine x_if_ne k192_17 (t := 24) rfl ⟨by decide, by decide⟩ (fun c534 => by exfalso; omega) (fun c534 => ?_)
      refine x_sipush k192_20 (by decide +kernel) ?_
      exact x_iret k192_23 rfl ⟨hG0, f0, (-1002), rfl, ⟨by decide, by decide⟩⟩
  · rw [e_z528]
    show xe none 192 5 [(0, .ref 256), (1, vi a), (2, vi b), (3, vi d)] [vi 0] s0 0 0 _
    refine x_if_ne k192_5 (t := 12) rfl ⟨by decide, by decide⟩ (fun c535 => by exfalso; omega) (fun c535 => ?_)
    refine x_sipush k192_8 (by decide +kernel) ?_
    exact x_iret k192_11 rfl ⟨hG0, f0, (-1001), rfl, ⟨by decide, by decide⟩⟩
theorem L_C_X11_give_256_114 (s0 : xS)   : ∀ (n : Nat) (s : xS) (x1 : Int) (x2 : Int) (x3 : Int) (x4 : Int) (x5 : Int) (x1000 : Int) (hG : GI s) (f : FL [4107, 4608, 4672, 4736, 4800, 4864, 4928] s0 s) (b_x1 : 0 ≤ x1 ∧ x1 ≤ 39) (b_x2 : 0 ≤ x2 ∧ x2 ≤ 39) (b_x3 : 0 ≤ x3 ∧ x3 ≤ 7) (b_x4 : 0 ≤ x4 ∧ x4 ≤ 63) (b_x5 : 0 ≤ x5 ∧ x5 ≤ 8) (b_x1000 : 0 ≤ x1000 ∧ x1000 ≤ 119) (e_x1000 : x1000 = s 256 10)  (hm : (8 - x5) < (n : Int)), xe none 155 114 [(0, .ref 256), (1, vi x1), (2, vi x2), (3, vi x3), (4, vi x4), (5, vi x5)] [] s 0 0 (fun s' v => GI s' ∧ FL [4107, 4608, 4672, 4736, 4800, 4864, 4928] s0 s' ∧ ∃ z, v = some (vi z) ∧ ((-1004) ≤ z ∧ z ≤ 119)) := by
  intro n
  induction n with
  | zero => intro s x1 x2 x3 x4 x5 x1000 hG f b_x1 b_x2 b_x3 b_x4 b_x5 b_x1000 e_x1000  hm; exfalso; omega
  | succ n ih =>
    intro s x1 x2 x3 x4 x5 x1000 hG f b_x1 b_x2 b_x3 b_x4 b_x5 b_x1000 e_x1000  hm
    refine x_A k155_114 (fun _ => rfl) ?_
    refine x_bipush k155_116 (by decide +kernel) ?_
    refine x_ic_ge k155_118 (t := 143) rfl (by first | exact x_rb b_x5 rfl rfl | exact ⟨by omega, by omega⟩) ⟨by decide, by decide⟩ (fun c519 => ?_) (fun c519 => ?_)
    · skip
      refine x_A k155_143 (fun _ => rfl) ?_
      refine x_A k155_144 (fun _ => rfl) ?_
      refine x_getI k155_145 (f := 10) rfl (q := 256) (n := 62) (kd := 15) ⟨by decide, rfl⟩ (by decide) rfl ?_
      rw [e_x1000.symm]
      refine x_A k155_148 (fun _ => rfl) ?_
      refine x_iadd k155_149 ?_
      refine x_top (fun z520 e_z520 => ?_)
      refine x_putI k155_150 (f := 10) rfl (q := 256) (n := 62) (kd := 15) ⟨by decide, rfl⟩ rfl rfl rfl ?_
      refine x_nh (fun s521 e_s521 => ?_)
      have hG_s521 : GI s521 := by rw [e_s521]; exact hG.up (show 0 ≤ z520 ∧ z520 ≤ 120 from (by first | exact x_rbe e_z520 g_z520 rfl rfl | exact x_rb g_z520 rfl rfl | exact ⟨by omega, by omega⟩))
      have f_s521 : FL [4107, 4608, 4672, 4736, 4800, 4864, 4928] s0 s521 := by rw [e_s521]; exact f.up (show 4107 ∈ [4107, 4608, 4672, 4736, 4800, 4864, 4928] from by decide +kernel)
      have q522 : s521 256 10 = z520 := by rw [e_s521]; exact x_up_same
      refine x_A k155_153 (fun _ => rfl) ?_
      refine x_getI k155_154 (f := 10) rfl (q := 256) (n := 62) (kd := 15) ⟨by decide, rfl⟩ (by decide) rfl ?_
      rw [q522]
      refine x_A k155_157 (fun _ => rfl) ?_
      refine x_isub k155_158 ?_
      refine x_top (fun z523 e_z523 => ?_)
      exact x_iret k155_159 rfl ⟨hG_s521, f_s521, z523, rfl, (by first | exact x_rbe e_z523 g_z523 rfl rfl | exact x_rb g_z523 rfl rfl | exact ⟨by omega, by omega⟩)⟩
    · skip
      refine x_A k155_121 (fun _ => rfl) ?_
      refine x_getR k155_122 (f := 16) rfl (q := 256) (n := 62) (kd := 15) ⟨by decide, rfl⟩ (q2 := 269) (by decide) rfl ?_
      refine x_bipush k155_125 (by decide +kernel) ?_
      refine x_A k155_127 (fun _ => rfl) ?_
      refine x_getI k155_128 (f := 10) rfl (q := 256) (n := 62) (kd := 15) ⟨by decide, rfl⟩ (by decide) rfl ?_
      rw [e_x1000.symm]
      refine x_imul k155_131 ?_
      refine x_top (fun z524 e_z524 => ?_)
      refine x_A k155_132 (fun _ => rfl) ?_
      refine x_iadd k155_134 ?_
      refine x_top (fun z525 e_z525 => ?_)
      refine x_A k155_135 (fun _ => rfl) ?_
      refine x_iast k155_136 (q := 269) (n := 960) ⟨by decide, rfl⟩ (by decide) (by first | exact x_rbel e_z525 g_z525 rfl rfl | exact x_rbl g_z525 rfl rfl | exact ⟨by omega, by omega⟩) ?_
      refine x_nh (fun s526 e_s526 => ?_)
      have hG_s526 : GI s526 := by rw [e_s526]; exact hG.up (show (-1) ≤ (-1) ∧ (-1) ≤ 9 from ⟨by decide, by decide⟩)
      have f_s526 : FL [4107, 4608, 4672, 4736, 4800, 4864, 4928] s0 s526 := by rw [e_s526]; exact f.up (show 4928 ∈ [4107, 4608, 4672, 4736, 4800, 4864, 4928] from by decide +kernel)
      have q527 : s526 256 10 = x1000 := by rw [e_s526, x_up_q (by decide)]; exact e_x1000.symm
      have q528 : s526 269 z525.toNat = (-1) := by rw [e_s526]; exact x_up_same
      refine x_iinc k155_137 (ls' := [(5, vi (x5 + 1)), (0, .ref 256), (1, vi x1), (2, vi x2), (3, vi x3), (4, vi x4)]) rfl (by decide) rfl ?_
      refine x_goto k155_140 (t := 114) rfl ?_
      refine x_ls (l := [(0, .ref 256), (1, vi x1), (2, vi x2), (3, vi x3), (4, vi x4), (5, vi (x5 + 1))]) (show ([0, 1, 2, 3, 4, 5] : List Nat).Nodup from by decide +kernel) ⟨rfl, rfl, rfl, rfl, rfl, rfl, trivial⟩ ?_
      exact ih s526 x1 x2 x3 x4 (x5 + 1) x1000 hG_s526 f_s526 (by first | exact x_rb b_x1 rfl rfl | exact ⟨by omega, by omega⟩) (by first | exact x_rb b_x2 rfl rfl | exact ⟨by omega, by omega⟩) (by first | exact x_rb b_x3 rfl rfl | exact ⟨by omega, by omega⟩) (by first | exact x_rb b_x4 rfl rfl | exact ⟨by omega, by omega⟩) ⟨by omega, by omega⟩ (by first | exact x_rb b_x1000 rfl rfl | exact ⟨by omega, by omega⟩) (q527).symm  (by omega)
theorem C_X11_give_256 (s0 : xS) (hG0 : GI s0) (a : Int) (b_a : (-2147483648) ≤ a ∧ a ≤ 2147483647) (b : Int) (b_b : (-2147483648) ≤ b ∧ b ≤ 2147483647) (d : Int) (b_d : (-2147483648) ≤ d ∧ d ≤ 2147483647) (e : Int) (b_e : (-2147483648) ≤ e ∧ e ≤ 2147483647) : xe none 155 0 (lv_args 0 [.ref 256, vi a, vi b, vi d, vi e]) [] s0 0 0 (fun s' v => GI s' ∧ FL [4107, 4608, 4672, 4736, 4800, 4864, 4928] s0 s' ∧ ∃ z, v = some (vi z) ∧ ((-1004) ≤ z ∧ z ≤ 119)) := by
  have f0 : FL [4107, 4608, 4672, 4736, 4800, 4864, 4928] s0 s0 := FL.rf
  show xe none 155 0 [(0, .ref 256), (1, vi a), (2, vi b), (3, vi d), (4, vi e)] [] s0 0 0 _
  refine x_A k155_0 (fun _ => rfl) ?_
  refine x_A k155_1 (fun _ => rfl) ?_
  obtain ⟨z529, e_z529⟩ : ∃ z, z = s0 256 6 := ⟨_, rfl⟩
  have g_z529 : (0 : Int) ≤ s0 256 6 ∧ s0 256 6 ≤ 40 := hG0 256 6
  refine x_callV k155_2 (y := 151) (n := 1) (w0 := 0) (w1 := 1) (as := [vi a]) (rest := []) (by decide +kernel) (q := 256) (nq := 62) (kq := 15) ⟨by decide, rfl⟩ rfl rfl rfl rfl (xe_mono (C_X11_isPicture_256 s0 hG0 a (by first | exact x_rb b_a rfl rfl | exact ⟨by omega, by omega⟩)) ?_)
  rintro s531 v ⟨h_s531, z530, rfl, hz_z530⟩
  rw [h_s531]
  rcases hz_z530 with ⟨c_z530, e_z530⟩ | ⟨c_z530, e_z530⟩
  · rw [e_z530]
    show xe none 155 5 [(0, .ref 256), (1, vi a), (2, vi b), (3, vi d), (4, vi e)] [vi 1] s0 0 0 _
    refine x_if_eq k155_5 (t := 16) rfl ⟨by decide, by decide⟩ (fun c532 => by exfalso; omega) (fun c532 => ?_)
    refine x_A k155_8 (fun _ => rfl) ?_
    refine x_A k155_9 (fun _ => rfl) ?_
    obtain ⟨z533, e_z533⟩ : ∃ z, z = s0 256 1 := ⟨_, rfl⟩
    have g_z533 : (1 : Int) ≤ s0 256 1 ∧ s0 256 1 ≤ 40 := hG0 256 1
    refine x_callV k155_10 (y := 137) (n := 1) (w0 := 0) (w1 := 1) (as := [vi b]) (rest := []) (by decide +kernel) (q := 256) (nq := 62) (kq := 15) ⟨by decide, rfl⟩ rfl rfl rfl rfl (xe_mono (C_X11_isMark_256 s0 hG0 b (by first | exact x_rb b_b rfl rfl | exact ⟨by omega, by omega⟩)) ?_)
    rintro s535 v ⟨h_s535, z534, rfl, hz_z534⟩
    rw [h_s535]
    rcases hz_z534 with ⟨c_z534, e_z534⟩ | ⟨c_z534, e_z534⟩
    · rw [e_z534]
      show xe none 155 13 [(0, .ref 256), (1, vi a), (2, vi b), (3, vi d), (4, vi e)] [vi 1] s0 0 0 _
      refine x_if_ne k155_13 (t := 20) rfl ⟨by decide, by decide⟩ (fun c536 => ?_) (fun c536 => by exfalso; omega)
      refine x_A k155_20 (fun _ => rfl) ?_
      refine x_callS k155_21 (y := 153) (n := 1) (w0 := 0) (w1 := 1) (as := [vi d]) (rest := []) (by decide +kernel) rfl rfl rfl rfl (xe_mono (C_X11_isHand s0 hG0 d (by first | exact x_rb b_d rfl rfl | exact ⟨by omega, by omega⟩)) ?_)
      rintro s538 v ⟨h_s538, z537, rfl, hz_z537⟩
      rw [h_s538]
      rcases hz_z537 with ⟨c_z537, e_z537⟩ | ⟨c_z537, e_z537⟩
      · rw [e_z537]
        show xe none 155 24 [(0, .ref 256), (1, vi a), (2, vi b), (3, vi d), (4, vi e)] [vi 1] s0 0 0 _
        refine x_if_eq k155_24 (t := 40) rfl ⟨by decide, by decide⟩ (fun c539 => by exfalso; omega) (fun c539 => ?_)
        refine x_A k155_27 (fun _ => rfl) ?_
        refine x_i2l k155_29 (by first | exact x_rb b_e rfl rfl | exact ⟨by omega, by omega⟩) ?_
        refine x_lconst k155_30 (z := 0) (by decide +kernel) ?_
        refine x_ldc2 k155_31 (z := 63) rfl (by decide +kernel) ?_
        refine x_callS k155_34 (y := 136) (n := 3) (w0 := 0) (w1 := 6) (as := [vj e, vj 0, vj 63]) (rest := []) (by decide +kernel) rfl rfl rfl rfl (xe_mono (C_X11_in s0 hG0 e ⟨by omega, by omega⟩ 0 ⟨by omega, by omega⟩ 63 ⟨by omega, by omega⟩) ?_)
        rintro s541 v ⟨h_s541, z540, rfl, hz_z540⟩
        rw [h_s541]
        rcases hz_z540 with ⟨c_z540, e_z540⟩ | ⟨c_z540, e_z540⟩
        · rw [e_z540]
          show xe none 155 37 [(0, .ref 256), (1, vi a), (2, vi b), (3, vi d), (4, vi e)] [vi 1] s0 0 0 _
          refine x_if_ne k155_37 (t := 44) rfl ⟨by decide, by decide⟩ (fun c542 => ?_) (fun c542 => by exfalso; omega)
          refine x_A k155_44 (fun _ => rfl) ?_
          refine x_getI k155_45 (f := 10) rfl (q := 256) (n := 62) (kd := 15) ⟨by decide, rfl⟩ (by decide) rfl ?_
          refine x_top (fun z543 e_z543 => ?_)
          have g_z543 : (0 : Int) ≤ s0 256 10 ∧ s0 256 10 ≤ 120 := hG0 256 10
          refine x_bipush k155_48 (by decide +kernel) ?_
          refine x_ic_ne k155_50 (t := 57) rfl (by first | exact x_rbe e_z543 g_z543 rfl rfl | exact x_rb g_z543 rfl rfl | exact ⟨by omega, by omega⟩) ⟨by decide, by decide⟩ (fun c544 => ?_) (fun c544 => ?_)
          · skip
            refine x_A k155_57 (fun _ => rfl) ?_
            refine x_getR k155_58 (f := 11) rfl (q := 256) (n := 62) (kd := 15) ⟨by decide, rfl⟩ (q2 := 264) (by decide) rfl ?_
            refine x_A k155_61 (fun _ => rfl) ?_
            refine x_getI k155_62 (f := 10) rfl (q := 256) (n := 62) (kd := 15) ⟨by decide, rfl⟩ (by decide) rfl ?_
            rw [e_z543.symm]
            refine x_A k155_65 (fun _ => rfl) ?_
            refine x_iast k155_66 (q := 264) (n := 120) ⟨by decide, rfl⟩ (by decide) (by first | exact x_rbel e_z543 g_z543 rfl rfl | exact x_rbl g_z543 rfl rfl | exact ⟨by omega, by omega⟩) ?_
            refine x_nh (fun s545 e_s545 => ?_)
            have hG_s545 : GI s545 := by rw [e_s545]; exact hG0.up (show 0 ≤ a ∧ a ≤ 39 from (by first | exact x_rb b_a rfl rfl | exact ⟨by omega, by omega⟩))
            have f_s545 : FL [4107, 4608, 4672, 4736, 4800, 4864, 4928] s0 s545 := by rw [e_s545]; exact f0.up (show 4608 ∈ [4107, 4608, 4672, 4736, 4800, 4864, 4928] from by decide +kernel)
            have q546 : s545 256 6 = z529 := by rw [e_s545, x_up_q (by decide)]; exact e_z529.symm
            have q547 : s545 256 1 = z533 := by rw [e_s545, x_up_q (by decide)]; exact e_z533.symm
            have q548 : s545 256 10 = z543 := by rw [e_s545, x_up_q (by decide)]; exact e_z543.symm
            have q549 : s545 264 z543.toNat = a := by rw [e_s545]; exact x_up_same
            refine x_A k155_67 (fun _ => rfl) ?_
            refine x_getR k155_68 (f := 12) rfl (q := 256) (n := 62) (kd := 15) ⟨by decide, rfl⟩ (q2 := 265) (by decide) rfl ?_
            refine x_A k155_71 (fun _ => rfl) ?_
            refine x_getI k155_72 (f := 10) rfl (q := 256) (n := 62) (kd := 15) ⟨by decide, rfl⟩ (by decide) rfl ?_
            rw [q548]
            refine x_A k155_75 (fun _ => rfl) ?_
            refine x_iast k155_76 (q := 265) (n := 120) ⟨by decide, rfl⟩ (by decide) (by first | exact x_rbel e_z543 g_z543 rfl rfl | exact x_rbl g_z543 rfl rfl | exact ⟨by omega, by omega⟩) ?_
            refine x_nh (fun s550 e_s550 => ?_)
            have hG_s550 : GI s550 := by rw [e_s550]; exact hG_s545.up (show 0 ≤ b ∧ b ≤ 39 from (by first | exact x_rb b_b rfl rfl | exact ⟨by omega, by omega⟩))
            have f_s550 : FL [4107, 4608, 4672, 4736, 4800, 4864, 4928] s0 s550 := by rw [e_s550]; exact f_s545.up (show 4672 ∈ [4107, 4608, 4672, 4736, 4800, 4864, 4928] from by decide +kernel)
            have q551 : s550 256 6 = z529 := by rw [e_s550, x_up_q (by decide)]; exact q546
            have q552 : s550 256 1 = z533 := by rw [e_s550, x_up_q (by decide)]; exact q547
            have q553 : s550 256 10 = z543 := by rw [e_s550, x_up_q (by decide)]; exact q548
            have q554 : s550 264 z543.toNat = a := by rw [e_s550, x_up_q (by first | decide | omega)]; exact q549
            have q555 : s550 265 z543.toNat = b := by rw [e_s550]; exact x_up_same
            refine x_A k155_77 (fun _ => rfl) ?_
            refine x_getR k155_78 (f := 13) rfl (q := 256) (n := 62) (kd := 15) ⟨by decide, rfl⟩ (q2 := 266) (by decide) rfl ?_
            refine x_A k155_81 (fun _ => rfl) ?_
            refine x_getI k155_82 (f := 10) rfl (q := 256) (n := 62) (kd := 15) ⟨by decide, rfl⟩ (by decide) rfl ?_
            rw [q553]
            refine x_A k155_85 (fun _ => rfl) ?_
            refine x_iast k155_86 (q := 266) (n := 120) ⟨by decide, rfl⟩ (by decide) (by first | exact x_rbel e_z543 g_z543 rfl rfl | exact x_rbl g_z543 rfl rfl | exact ⟨by omega, by omega⟩) ?_
            refine x_nh (fun s556 e_s556 => ?_)
            have hG_s556 : GI s556 := by rw [e_s556]; exact hG_s550.up (show 0 ≤ d ∧ d ≤ 7 from (by first | exact x_rb b_d rfl rfl | exact ⟨by omega, by omega⟩))
            have f_s556 : FL [4107, 4608, 4672, 4736, 4800, 4864, 4928] s0 s556 := by rw [e_s556]; exact f_s550.up (show 4736 ∈ [4107, 4608, 4672, 4736, 4800, 4864, 4928] from by decide +kernel)
            have q557 : s556 256 6 = z529 := by rw [e_s556, x_up_q (by decide)]; exact q551
            have q558 : s556 256 1 = z533 := by rw [e_s556, x_up_q (by decide)]; exact q552
            have q559 : s556 256 10 = z543 := by rw [e_s556, x_up_q (by decide)]; exact q553
            have q560 : s556 264 z543.toNat = a := by rw [e_s556, x_up_q (by first | decide | omega)]; exact q554
            have q561 : s556 265 z543.toNat = b := by rw [e_s556, x_up_q (by first | decide | omega)]; exact q555
            have q562 : s556 266 z543.toNat = d := by rw [e_s556]; exact x_up_same
            refine x_A k155_87 (fun _ => rfl) ?_
            refine x_getR k155_88 (f := 14) rfl (q := 256) (n := 62) (kd := 15) ⟨by decide, rfl⟩ (q2 := 267) (by decide) rfl ?_
            refine x_A k155_91 (fun _ => rfl) ?_
            refine x_getI k155_92 (f := 10) rfl (q := 256) (n := 62) (kd := 15) ⟨by decide, rfl⟩ (by decide) rfl ?_
            rw [q559]
            refine x_A k155_95 (fun _ => rfl) ?_
            refine x_iast k155_97 (q := 267) (n := 120) ⟨by decide, rfl⟩ (by decide) (by first | exact x_rbel e_z543 g_z543 rfl rfl | exact x_rbl g_z543 rfl rfl | exact ⟨by omega, by omega⟩) ?_
            refine x_nh (fun s563 e_s563 => ?_)
            have hG_s563 : GI s563 := by rw [e_s563]; exact hG_s556.up (show 0 ≤ e ∧ e ≤ 63 from (by first | exact x_rb b_e rfl rfl | exact ⟨by omega, by omega⟩))
            have f_s563 : FL [4107, 4608, 4672, 4736, 4800, 4864, 4928] s0 s563 := by rw [e_s563]; exact f_s556.up (show 4800 ∈ [4107, 4608, 4672, 4736, 4800, 4864, 4928] from by decide +kernel)
            have q564 : s563 256 6 = z529 := by rw [e_s563, x_up_q (by decide)]; exact q557
            have q565 : s563 256 1 = z533 := by rw [e_s563, x_up_q (by decide)]; exact q558
            have q566 : s563 256 10 = z543 := by rw [e_s563, x_up_q (by decide)]; exact q559
            have q567 : s563 264 z543.toNat = a := by rw [e_s563, x_up_q (by first | decide | omega)]; exact q560
            have q568 : s563 265 z543.toNat = b := by rw [e_s563, x_up_q (by first | decide | omega)]; exact q561
            have q569 : s563 266 z543.toNat = d := by rw [e_s563, x_up_q (by first | decide | omega)]; exact q562
            have q570 : s563 267 z543.toNat = e := by rw [e_s563]; exact x_up_same
            refine x_A k155_98 (fun _ => rfl) ?_
            refine x_getR k155_99 (f := 15) rfl (q := 256) (n := 62) (kd := 15) ⟨by decide, rfl⟩ (q2 := 268) (by decide) rfl ?_
            refine x_A k155_102 (fun _ => rfl) ?_
            refine x_getI k155_103 (f := 10) rfl (q := 256) (n := 62) (kd := 15) ⟨by decide, rfl⟩ (by decide) rfl ?_
            rw [q566]
            refine x_A k155_106 (fun _ => rfl) ?_
            refine x_getI k155_107 (f := 0) rfl (q := 256) (n := 62) (kd := 15) ⟨by decide, rfl⟩ (by decide) rfl ?_
            refine x_top (fun z571 e_z571 => ?_)
            have g_z571 : (0 : Int) ≤ s563 256 0 ∧ s563 256 0 ≤ 9 := hG_s563 256 0
            refine x_iast k155_110 (q := 268) (n := 120) ⟨by decide, rfl⟩ (by decide) (by first | exact x_rbel e_z543 g_z543 rfl rfl | exact x_rbl g_z543 rfl rfl | exact ⟨by omega, by omega⟩) ?_
            refine x_nh (fun s572 e_s572 => ?_)
            have hG_s572 : GI s572 := by rw [e_s572]; exact hG_s563.up (show 0 ≤ z571 ∧ z571 ≤ 9 from (by first | exact x_rbe e_z571 g_z571 rfl rfl | exact x_rb g_z571 rfl rfl | exact ⟨by omega, by omega⟩))
            have f_s572 : FL [4107, 4608, 4672, 4736, 4800, 4864, 4928] s0 s572 := by rw [e_s572]; exact f_s563.up (show 4864 ∈ [4107, 4608, 4672, 4736, 4800, 4864, 4928] from by decide +kernel)
            have q573 : s572 256 6 = z529 := by rw [e_s572, x_up_q (by decide)]; exact q564
            have q574 : s572 256 1 = z533 := by rw [e_s572, x_up_q (by decide)]; exact q565
            have q575 : s572 256 10 = z543 := by rw [e_s572, x_up_q (by decide)]; exact q566
            have q576 : s572 256 0 = z571 := by rw [e_s572, x_up_q (by decide)]; exact e_z571.symm
            have q577 : s572 264 z543.toNat = a := by rw [e_s572, x_up_q (by first | decide | omega)]; exact q567
            have q578 : s572 265 z543.toNat = b := by rw [e_s572, x_up_q (by first | decide | omega)]; exact q568
            have q579 : s572 266 z543.toNat = d := by rw [e_s572, x_up_q (by first | decide | omega)]; exact q569
            have q580 : s572 267 z543.toNat = e := by rw [e_s572, x_up_q (by first | decide | omega)]; exact q570
            have q581 : s572 268 z543.toNat = z571 := by rw [e_s572]; exact x_up_same
            refine x_A k155_111 (fun _ => rfl) ?_
            refine x_istore k155_112 (ls' := [(5, vi 0), (0, .ref 256), (1, vi a), (2, vi b), (3, vi d), (4, vi e)]) (by decide) rfl ?_
            refine x_ls (l := [(0, .ref 256), (1, vi a), (2, vi b), (3, vi d), (4, vi e), (5, vi 0)]) (show ([0, 1, 2, 3, 4, 5] : List Nat).Nodup from by decide +kernel) ⟨rfl, rfl, rfl, rfl, rfl, rfl, trivial⟩ ?_
            exact L_C_X11_give_256_114 s0   (((8 - 0) + 1 : Int)).toNat s572 a b d e 0 z543 hG_s572 f_s572 (by first | exact x_rb b_a rfl rfl | exact ⟨by omega, by omega⟩) (by first | exact x_rb b_b rfl rfl | exact ⟨by omega, by omega⟩) (by first | exact x_rb b_d rfl rfl | exact ⟨by omega, by omega⟩) (by first | exact x_rb b_e rfl rfl | exact ⟨by omega, by omega⟩) ⟨by decide, by decide⟩ (by first | exact x_rbe e_z543 g_z543 rfl rfl | exact x_rb g_z543 rfl rfl | exact ⟨by omega, by omega⟩) (q575).symm  (by omega)
          · skip
            refine x_sipush k155_53 (by decide +kernel) ?_
            exact x_iret k155_56 rfl ⟨hG0, f0, (-1004), rfl, ⟨by decide, by decide⟩⟩
        · rw [e_z540]
          show xe none 155 37 [(0, .ref 256), (1, vi a), (2, vi b), (3, vi d), (4, vi e)] [vi 0] s0 0 0 _
          refine x_if_ne k155_37 (t := 44) rfl ⟨by decide, by decide⟩ (fun c582 => by exfalso; omega) (fun c582 => ?_)
          refine x_sipush k155_40 (by decide +kernel) ?_
          exact x_iret k155_43 rfl ⟨hG0, f0, (-1002), rfl, ⟨by decide, by decide⟩⟩
      · rw [e_z537]
        show xe none 155 24 [(0, .ref 256), (1, vi a), (2, vi b), (3, vi d), (4, vi e)] [vi 0] s0 0 0 _
        refine x_if_eq k155_24 (t := 40) rfl ⟨by decide, by decide⟩ (fun c583 => ?_) (fun c583 => by exfalso; omega)
        refine x_sipush k155_40 (by decide +kernel) ?_
        exact x_iret k155_43 rfl ⟨hG0, f0, (-1002), rfl, ⟨by decide, by decide⟩⟩
    · rw [e_z534]
      show xe none 155 13 [(0, .ref 256), (1, vi a), (2, vi b), (3, vi d), (4, vi e)] [vi 0] s0 0 0 _
      refine x_if_ne k155_13 (t := 20) rfl ⟨by decide, by decide⟩ (fun c584 => by exfalso; omega) (fun c584 => ?_)
      refine x_sipush k155_16 (by decide +kernel) ?_
      exact x_iret k155_19 rfl ⟨hG0, f0, (-1001), rfl, ⟨by decide, by decide⟩⟩
  · rw [e_z530]
    show xe none 155 5 [(0, .ref 256), (1, vi a), (2, vi b), (3, vi d), (4, vi e)] [vi 0] s0 0 0 _
    refine x_if_eq k155_5 (t := 16) rfl ⟨by decide, by decide⟩ (fun c585 => ?_) (fun c585 => by exfalso; omega)
    refine x_sipush k155_16 (by decide +kernel) ?_
    exact x_iret k155_19 rfl ⟨hG0, f0, (-1001), rfl, ⟨by decide, by decide⟩⟩
theorem C_X11_doubt_256 (s0 : xS) (hG0 : GI s0) (a : Int) (b_a : (-2147483648) ≤ a ∧ a ≤ 2147483647) (b : Int) (b_b : (-2147483648) ≤ b ∧ b ≤ 2147483647) : xe none 157 0 (lv_args 0 [.ref 256, vi a, vi b]) [] s0 0 0 (fun s' v => GI s' ∧ FL [4928] s0 s' ∧ ∃ z, v = some (vi z) ∧ ((-1004) ≤ z ∧ z ≤ 8)) := by
  have f0 : FL [4928] s0 s0 := FL.rf
  show xe none 157 0 [(0, .ref 256), (1, vi a), (2, vi b)] [] s0 0 0 _
  refine x_A k157_0 (fun _ => rfl) ?_
  refine x_A k157_1 (fun _ => rfl) ?_
  obtain ⟨z1, e_z1⟩ : ∃ z, z = s0 256 10 := ⟨_, rfl⟩
  have g_z1 : (0 : Int) ≤ s0 256 10 ∧ s0 256 10 ≤ 120 := hG0 256 10
  refine x_callV k157_2 (y := 152) (n := 1) (w0 := 0) (w1 := 1) (as := [vi a]) (rest := []) (by decide +kernel) (q := 256) (nq := 62) (kq := 15) ⟨by decide, rfl⟩ rfl rfl rfl rfl (xe_mono (C_X11_isGiving_256 s0 hG0 a (by first | exact x_rb b_a rfl rfl | exact ⟨by omega, by omega⟩)) ?_)
  rintro s3 v ⟨h_s3, z2, rfl, hz_z2⟩
  rw [h_s3]
  rcases hz_z2 with ⟨c_z2, e_z2⟩ | ⟨c_z2, e_z2⟩
  · rw [e_z2]
    show xe none 157 5 [(0, .ref 256), (1, vi a), (2, vi b)] [vi 1] s0 0 0 _
    refine x_if_ne k157_5 (t := 12) rfl ⟨by decide, by decide⟩ (fun c4 => ?_) (fun c4 => by exfalso; omega)
    refine x_A k157_12 (fun _ => rfl) ?_
    refine x_callS k157_13 (y := 153) (n := 1) (w0 := 0) (w1 := 1) (as := [vi b]) (rest := []) (by decide +kernel) rfl rfl rfl rfl (xe_mono (C_X11_isHand s0 hG0 b (by first | exact x_rb b_b rfl rfl | exact ⟨by omega, by omega⟩)) ?_)
    rintro s6 v ⟨h_s6, z5, rfl, hz_z5⟩
    rw [h_s6]
    rcases hz_z5 with ⟨c_z5, e_z5⟩ | ⟨c_z5, e_z5⟩
    · rw [e_z5]
      show xe none 157 16 [(0, .ref 256), (1, vi a), (2, vi b)] [vi 1] s0 0 0 _
      refine x_if_ne k157_16 (t := 23) rfl ⟨by decide, by decide⟩ (fun c7 => ?_) (fun c7 => by exfalso; omega)
      refine x_A k157_23 (fun _ => rfl) ?_
      refine x_A k157_24 (fun _ => rfl) ?_
      refine x_getR k157_25 (f := 13) rfl (q := 256) (n := 62) (kd := 15) ⟨by decide, rfl⟩ (q2 := 266) (by decide) rfl ?_
      refine x_A k157_28 (fun _ => rfl) ?_
      refine x_iald k157_29 (q := 266) (n := 120) ⟨by decide, rfl⟩ (by decide) (by first | exact x_rbl b_a rfl rfl | exact ⟨by omega, by omega⟩) ?_
      refine x_top (fun z8 e_z8 => ?_)
      have g_z8 : (0 : Int) ≤ s0 266 a.toNat ∧ s0 266 a.toNat ≤ 7 := hG0 266 a.toNat
      refine x_ic_eq k157_30 (t := 47) rfl (by first | exact x_rb b_b rfl rfl | exact ⟨by omega, by omega⟩) (by first | exact x_rbe e_z8 g_z8 rfl rfl | exact x_rb g_z8 rfl rfl | exact ⟨by omega, by omega⟩) (fun c9 => ?_) (fun c9 => ?_)
      · skip
        refine x_sipush k157_47 (by decide +kernel) ?_
        exact x_iret k157_50 rfl ⟨hG0, f0, (-1003), rfl, ⟨by decide, by decide⟩⟩
      · skip
        refine x_A k157_33 (fun _ => rfl) ?_
        refine x_getR k157_34 (f := 16) rfl (q := 256) (n := 62) (kd := 15) ⟨by decide, rfl⟩ (q2 := 269) (by decide) rfl ?_
        refine x_bipush k157_37 (by decide +kernel) ?_
        refine x_A k157_39 (fun _ => rfl) ?_
        refine x_imul k157_40 ?_
        refine x_top (fun z10 e_z10 => ?_)
        refine x_A k157_41 (fun _ => rfl) ?_
        refine x_iadd k157_42 ?_
        refine x_top (fun z11 e_z11 => ?_)
        refine x_iald k157_43 (q := 269) (n := 960) ⟨by decide, rfl⟩ (by decide) (by first | exact x_rbel e_z11 g_z11 rfl rfl | exact x_rbl g_z11 rfl rfl | exact ⟨by omega, by omega⟩) ?_
        refine x_top (fun z12 e_z12 => ?_)
        have g_z12 : (-1) ≤ s0 269 z11.toNat ∧ s0 269 z11.toNat ≤ 9 := hG0 269 z11.toNat
        refine x_if_lt k157_44 (t := 51) rfl (by first | exact x_rbe e_z12 g_z12 rfl rfl | exact x_rb g_z12 rfl rfl | exact ⟨by omega, by omega⟩) (fun c13 => ?_) (fun c13 => ?_)
        · skip
          refine x_A k157_51 (fun _ => rfl) ?_
          refine x_getR k157_52 (f := 16) rfl (q := 256) (n := 62) (kd := 15) ⟨by decide, rfl⟩ (q2 := 269) (by decide) rfl ?_
          refine x_bipush k157_55 (by decide +kernel) ?_
          refine x_A k157_57 (fun _ => rfl) ?_
          refine x_imul k157_58 ?_
          refine x_top (fun z14 e_z14 => ?_)
          refine x_A k157_59 (fun _ => rfl) ?_
          refine x_iadd k157_60 ?_
          refine x_top (fun z15 e_z15 => ?_)
          refine x_A k157_61 (fun _ => rfl) ?_
          refine x_getI k157_62 (f := 0) rfl (q := 256) (n := 62) (kd := 15) ⟨by decide, rfl⟩ (by decide) rfl ?_
          refine x_top (fun z16 e_z16 => ?_)
          have g_z16 : (0 : Int) ≤ s0 256 0 ∧ s0 256 0 ≤ 9 := hG0 256 0
          refine x_iast k157_65 (q := 269) (n := 960) ⟨by decide, rfl⟩ (by decide) (by first | exact x_rbel e_z15 g_z15 rfl rfl | exact x_rbl g_z15 rfl rfl | exact ⟨by omega, by omega⟩) ?_
          refine x_nh (fun s17 e_s17 => ?_)
          have hG_s17 : GI s17 := by rw [e_s17]; exact hG0.up (show (-1) ≤ z16 ∧ z16 ≤ 9 from (by first | exact x_rbe e_z16 g_z16 rfl rfl | exact x_rb g_z16 rfl rfl | exact ⟨by omega, by omega⟩))
          have f_s17 : FL [4928] s0 s17 := by rw [e_s17]; exact f0.up (show 4928 ∈ [4928] from by decide +kernel)
          have q18 : s17 256 10 = z1 := by rw [e_s17, x_up_q (by decide)]; exact e_z1.symm
          have q19 : s17 256 0 = z16 := by rw [e_s17, x_up_q (by decide)]; exact e_z16.symm
          have q20 : s17 266 a.toNat = z8 := by rw [e_s17, x_up_q (by first | decide | omega)]; exact e_z8.symm
          have q21 : s17 269 z15.toNat = z16 := by rw [e_s17]; exact x_up_same
          refine x_A k157_66 (fun _ => rfl) ?_
          refine x_A k157_67 (fun _ => rfl) ?_
          refine x_A k157_68 (fun _ => rfl) ?_
          refine x_getI k157_69 (f := 0) rfl (q := 256) (n := 62) (kd := 15) ⟨by decide, rfl⟩ (by decide) rfl ?_
          rw [q19]
          refine x_callV k157_72 (y := 156) (n := 2) (w0 := 0) (w1 := 2) (as := [vi a, vi z16]) (rest := []) (by decide +kernel) (q := 256) (nq := 62) (kq := 15) ⟨by decide, rfl⟩ rfl rfl rfl rfl (xe_mono (C_X11_doubts_256 s17 hG_s17 a (by first | exact x_rb b_a rfl rfl | exact ⟨by omega, by omega⟩) z16 (by first | exact x_rbe e_z16 g_z16 rfl rfl | exact x_rb g_z16 rfl rfl | exact ⟨by omega, by omega⟩)) ?_)
          rintro s23 v ⟨-, t_s23, z22, rfl, g_z22⟩
          rw [t_s23.nil]
          show xe none 157 75 [(0, .ref 256), (1, vi a), (2, vi b)] [vi z22] s17 0 0 _
          exact x_iret k157_75 rfl ⟨hG_s17, f_s17, z22, rfl, (by first | exact x_rbe e_z22 g_z22 rfl rfl | exact x_rb g_z22 rfl rfl | exact ⟨by omega, by omega⟩)⟩
        · skip
          refine x_sipush k157_47 (by decide +kernel) ?_
          exact x_iret k157_50 rfl ⟨hG0, f0, (-1003), rfl, ⟨by decide, by decide⟩⟩
    · rw [e_z5]
      show xe none 157 16 [(0, .ref 256), (1, vi a), (2, vi b)] [vi 0] s0 0 0 _
      refine x_if_ne k157_16 (t := 23) rfl ⟨by decide, by decide⟩ (fun c24 => by exfalso; omega) (fun c24 => ?_)
      refine x_sipush k157_19 (by decide +kernel) ?_
      exact x_iret k157_22 rfl ⟨hG0, f0, (-1002), rfl, ⟨by decide, by decide⟩⟩
  · rw [e_z2]
    show xe none 157 5 [(0, .ref 256), (1, vi a), (2, vi b)] [vi 0] s0 0 0 _
    refine x_if_ne k157_5 (t := 12) rfl ⟨by decide, by decide⟩ (fun c25 => by exfalso; omega) (fun c25 => ?_)
    refine x_sipush k157_8 (by decide +kernel) ?_
    exact x_iret k157_11 rfl ⟨hG0, f0, (-1001), rfl, ⟨by decide, by decide⟩⟩
theorem C_X11_fault_256 (s0 : xS) (hG0 : GI s0)  : xe none 188 0 (lv_args 0 [.ref 256]) [] s0 0 0 (fun s' v => GI s' ∧ FL [] s0 s' ∧ ∃ z, v = some (vi z) ∧ ((-2147483648) ≤ z ∧ z ≤ 2147483647)) := by
  have f0 : FL [] s0 s0 := FL.rf
  show xe none 188 0 [(0, .ref 256)] [] s0 0 0 _
  refine x_A k188_0 (fun _ => rfl) ?_
  refine x_getI k188_1 (f := 35) rfl (q := 256) (n := 62) (kd := 15) ⟨by decide, rfl⟩ (by decide) rfl ?_
  refine x_top (fun z1 e_z1 => ?_)
  have g_z1 : (-2147483648) ≤ s0 256 35 ∧ s0 256 35 ≤ 2147483647 := hG0 256 35
  exact x_iret k188_4 rfl ⟨hG0, f0, z1, rfl, (by first | exact x_rbe e_z1 g_z1 rfl rfl | exact x_rb g_z1 rfl rfl | exact ⟨by omega, by omega⟩)⟩
theorem C_X10_fault_0 (s0 : xS) (hG0 : GI s0)  : xe none 106 0 (lv_args 0 [.ref 0]) [] s0 0 0 (fun s' v => GI s' ∧ FL [] s0 s' ∧ ∃ z, v = some (vi z) ∧ ((-2147483648) ≤ z ∧ z ≤ 2147483647)) := by
  have f0 : FL [] s0 s0 := FL.rf
  show xe none 106 0 [(0, .ref 0)] [] s0 0 0 _
  refine x_A k106_0 (fun _ => rfl) ?_
  refine x_getI k106_1 (f := 11) rfl (q := 0) (n := 12) (kd := 3) ⟨by decide, rfl⟩ (by decide) rfl ?_
  refine x_top (fun z1 e_z1 => ?_)
  have g_z1 : (-2147483648) ≤ s0 0 11 ∧ s0 0 11 ≤ 2147483647 := hG0 0 11
  exact x_iret k106_4 rfl ⟨hG0, f0, z1, rfl, (by first | exact x_rbe e_z1 g_z1 rfl rfl | exact x_rb g_z1 rfl rfl | exact ⟨by omega, by omega⟩)⟩
theorem C_X11_leads_256 (s0 : xS) (hG0 : GI s0) (a : Int) (b_a : (-2147483648) ≤ a ∧ a ≤ 2147483647) (b : Int) (b_b : (-2147483648) ≤ b ∧ b ≤ 2147483647) : xe none 193 0 (lv_args 0 [.ref 256, vi a, vi b]) [] s0 0 0 (fun s' v => GI s' ∧ FL [] s0 s' ∧ ∃ z, v = some (vi z) ∧ ((-1004) ≤ z ∧ z ≤ 60)) := by
  have f0 : FL [] s0 s0 := FL.rf
  show xe none 193 0 [(0, .ref 256), (1, vi a), (2, vi b)] [] s0 0 0 _
  refine x_A k193_0 (fun _ => rfl) ?_
  refine x_A k193_1 (fun _ => rfl) ?_
  refine x_callS k193_2 (y := 190) (n := 2) (w0 := 0) (w1 := 2) (as := [vi a, vi b]) (rest := []) (by decide +kernel) rfl rfl rfl rfl (xe_mono (C_X11_isWord s0 hG0 a (by first | exact x_rb b_a rfl rfl | exact ⟨by omega, by omega⟩) b (by first | exact x_rb b_b rfl rfl | exact ⟨by omega, by omega⟩)) ?_)
  rintro s2 v ⟨h_s2, z1, rfl, hz_z1⟩
  rw [h_s2]
  rcases hz_z1 with ⟨c_z1, e_z1⟩ | ⟨c_z1, e_z1⟩
  · rw [e_z1]
    show xe none 193 5 [(0, .ref 256), (1, vi a), (2, vi b)] [vi 1] s0 0 0 _
    refine x_if_ne k193_5 (t := 12) rfl ⟨by decide, by decide⟩ (fun c3 => ?_) (fun c3 => by exfalso; omega)
    refine x_A k193_12 (fun _ => rfl) ?_
    refine x_A k193_13 (fun _ => rfl) ?_
    refine x_A k193_14 (fun _ => rfl) ?_
    refine x_callV k193_15 (y := 191) (n := 2) (w0 := 0) (w1 := 2) (as := [vi a, vi b]) (rest := []) (by decide +kernel) (q := 256) (nq := 62) (kq := 15) ⟨by decide, rfl⟩ rfl rfl rfl rfl (xe_mono (C_X11_leadsMany_256 s0 hG0 a (by first | exact x_rb b_a rfl rfl | exact ⟨by omega, by omega⟩) b (by first | exact x_rb b_b rfl rfl | exact ⟨by omega, by omega⟩)) ?_)
    rintro s5 v ⟨-, t_s5, z4, rfl, g_z4⟩
    rw [t_s5.nil]
    show xe none 193 18 [(0, .ref 256), (1, vi a), (2, vi b)] [vi z4] s0 0 0 _
    refine x_istore_n k193_18 (ls' := [(3, vi z4), (0, .ref 256), (1, vi a), (2, vi b)]) (by decide) rfl ?_
    refine x_A k193_19 (fun _ => rfl) ?_
    refine x_A k193_20 (fun _ => rfl) ?_
    refine x_ic_le k193_21 (t := 28) rfl (by first | exact x_rbe e_z4 g_z4 rfl rfl | exact x_rb g_z4 rfl rfl | exact ⟨by omega, by omega⟩) ⟨by decide, by decide⟩ (fun c6 => ?_) (fun c6 => ?_)
    · skip
      refine x_A k193_28 (fun _ => rfl) ?_
      exact x_iret k193_29 rfl ⟨hG0, f0, z4, rfl, (by first | exact x_rbe e_z4 g_z4 rfl rfl | exact x_rb g_z4 rfl rfl | exact ⟨by omega, by omega⟩)⟩
    · skip
      refine x_A k193_24 (fun _ => rfl) ?_
      refine x_goto k193_25 (t := 29) rfl ?_
      exact x_iret k193_29 rfl ⟨hG0, f0, 2, rfl, ⟨by decide, by decide⟩⟩
  · rw [e_z1]
    show xe none 193 5 [(0, .ref 256), (1, vi a), (2, vi b)] [vi 0] s0 0 0 _
    refine x_if_ne k193_5 (t := 12) rfl ⟨by decide, by decide⟩ (fun c7 => by exfalso; omega) (fun c7 => ?_)
    refine x_sipush k193_8 (by decide +kernel) ?_
    exact x_iret k193_11 rfl ⟨hG0, f0, (-1002), rfl, ⟨by decide, by decide⟩⟩
theorem C_X11_code (s0 : xS) (hG0 : GI s0) (a : Int) (b_a : (-2147483648) ≤ a ∧ a ≤ 2147483647) (b : Int) (b_b : (-2147483648) ≤ b ∧ b ≤ 2147483647) (d : Int) (b_d : (-2147483648) ≤ d ∧ d ≤ 2147483647) (e : Int) (b_e : (-2147483648) ≤ e ∧ e ≤ 2147483647) (g : Int) (b_g : (-2147483648) ≤ g ∧ g ≤ 2147483647) (h : Int) (b_h : (-2147483648) ≤ h ∧ h ≤ 2147483647) : xe none 179 0 (lv_args 0 [vi a, vi b, vi d, vi e, vi g, vi h]) [] s0 0 0 (fun s' v => GI s' ∧ FL [] s0 s' ∧ ∃ z, v = some (vj z) ∧ in64 z) := by
  have f0 : FL [] s0 s0 := FL.rf
  show xe none 179 0 [(0, vi a), (1, vi b), (2, vi d), (3, vi e), (4, vi g), (5, vi h)] [] s0 0 0 _
  refine x_ldc2 k179_0 (z := 27) rfl (by decide +kernel) ?_
  refine x_A k179_3 (fun _ => rfl) ?_
  refine x_i2l k179_4 (by first | exact x_rb b_a rfl rfl | exact ⟨by omega, by omega⟩) ?_
  refine x_ldc2 k179_5 (z := 96) rfl (by decide +kernel) ?_
  refine x_lsub_any k179_8 (fun z1 b_z1 => ?_)
  refine x_lmul_any k179_9 (fun z2 b_z2 => ?_)
  refine x_A k179_10 (fun _ => rfl) ?_
  refine x_i2l k179_11 (by first | exact x_rb b_b rfl rfl | exact ⟨by omega, by omega⟩) ?_
  refine x_ladd_any k179_12 (fun z3 b_z3 => ?_)
  refine x_ldc2 k179_13 (z := 96) rfl (by decide +kernel) ?_
  refine x_lsub_any k179_16 (fun z4 b_z4 => ?_)
  refine x_lstore k179_17 (ls' := [(6, vj z4), (0, vi a), (1, vi b), (2, vi d), (3, vi e), (4, vi g), (5, vi h)]) (by decide) rfl ?_
  refine x_A k179_19 (fun _ => rfl) ?_
  refine x_if_ne k179_20 (t := 28) rfl (by first | exact x_rb b_d rfl rfl | exact ⟨by omega, by omega⟩) (fun c5 => ?_) (fun c5 => ?_)
  · skip
    refine x_ldc2 k179_28 (z := 27) rfl (by decide +kernel) ?_
    refine x_A k179_31 (fun _ => rfl) ?_
    refine x_lmul_any k179_33 (fun z6 b_z6 => ?_)
    refine x_A k179_34 (fun _ => rfl) ?_
    refine x_i2l k179_35 (by first | exact x_rb b_d rfl rfl | exact ⟨by omega, by omega⟩) ?_
    refine x_ladd_any k179_36 (fun z7 b_z7 => ?_)
    refine x_ldc2 k179_37 (z := 96) rfl (by decide +kernel) ?_
    refine x_lsub_any k179_40 (fun z8 b_z8 => ?_)
    refine x_lstore k179_41 (ls' := [(6, vj z8), (0, vi a), (1, vi b), (2, vi d), (3, vi e), (4, vi g), (5, vi h)]) (by decide) rfl ?_
    refine x_A k179_43 (fun _ => rfl) ?_
    refine x_if_ne k179_44 (t := 52) rfl (by first | exact x_rb b_e rfl rfl | exact ⟨by omega, by omega⟩) (fun c9 => ?_) (fun c9 => ?_)
    · skip
      refine x_ldc2 k179_52 (z := 27) rfl (by decide +kernel) ?_
      refine x_A k179_55 (fun _ => rfl) ?_
      refine x_lmul_any k179_57 (fun z10 b_z10 => ?_)
      refine x_A k179_58 (fun _ => rfl) ?_
      refine x_i2l k179_59 (by first | exact x_rb b_e rfl rfl | exact ⟨by omega, by omega⟩) ?_
      refine x_ladd_any k179_60 (fun z11 b_z11 => ?_)
      refine x_ldc2 k179_61 (z := 96) rfl (by decide +kernel) ?_
      refine x_lsub_any k179_64 (fun z12 b_z12 => ?_)
      refine x_lstore k179_65 (ls' := [(6, vj z12), (0, vi a), (1, vi b), (2, vi d), (3, vi e), (4, vi g), (5, vi h)]) (by decide) rfl ?_
      refine x_A k179_67 (fun _ => rfl) ?_
      refine x_if_ne k179_69 (t := 77) rfl (by first | exact x_rb b_g rfl rfl | exact ⟨by omega, by omega⟩) (fun c13 => ?_) (fun c13 => ?_)
      · skip
        refine x_ldc2 k179_77 (z := 27) rfl (by decide +kernel) ?_
        refine x_A k179_80 (fun _ => rfl) ?_
        refine x_lmul_any k179_82 (fun z14 b_z14 => ?_)
        refine x_A k179_83 (fun _ => rfl) ?_
        refine x_i2l k179_85 (by first | exact x_rb b_g rfl rfl | exact ⟨by omega, by omega⟩) ?_
        refine x_ladd_any k179_86 (fun z15 b_z15 => ?_)
        refine x_ldc2 k179_87 (z := 96) rfl (by decide +kernel) ?_
        refine x_lsub_any k179_90 (fun z16 b_z16 => ?_)
        refine x_lstore k179_91 (ls' := [(6, vj z16), (0, vi a), (1, vi b), (2, vi d), (3, vi e), (4, vi g), (5, vi h)]) (by decide) rfl ?_
        refine x_A k179_93 (fun _ => rfl) ?_
        refine x_if_ne k179_95 (t := 103) rfl (by first | exact x_rb b_h rfl rfl | exact ⟨by omega, by omega⟩) (fun c17 => ?_) (fun c17 => ?_)
        · skip
          refine x_ldc2 k179_103 (z := 27) rfl (by decide +kernel) ?_
          refine x_A k179_106 (fun _ => rfl) ?_
          refine x_lmul_any k179_108 (fun z18 b_z18 => ?_)
          refine x_A k179_109 (fun _ => rfl) ?_
          refine x_i2l k179_111 (by first | exact x_rb b_h rfl rfl | exact ⟨by omega, by omega⟩) ?_
          refine x_ladd_any k179_112 (fun z19 b_z19 => ?_)
          refine x_ldc2 k179_113 (z := 96) rfl (by decide +kernel) ?_
          refine x_lsub_any k179_116 (fun z20 b_z20 => ?_)
          exact x_lret k179_117 rfl ⟨hG0, f0, z20, rfl, b_z20⟩
        · skip
          refine x_A k179_98 (fun _ => rfl) ?_
          refine x_goto k179_100 (t := 117) rfl ?_
          exact x_lret k179_117 rfl ⟨hG0, f0, z16, rfl, b_z16⟩
      · skip
        refine x_A k179_72 (fun _ => rfl) ?_
        refine x_goto k179_74 (t := 91) rfl ?_
        refine x_lstore k179_91 (ls' := [(6, vj z12), (0, vi a), (1, vi b), (2, vi d), (3, vi e), (4, vi g), (5, vi h)]) (by decide) rfl ?_
        refine x_A k179_93 (fun _ => rfl) ?_
        refine x_if_ne k179_95 (t := 103) rfl (by first | exact x_rb b_h rfl rfl | exact ⟨by omega, by omega⟩) (fun c21 => ?_) (fun c21 => ?_)
        · skip
          refine x_ldc2 k179_103 (z := 27) rfl (by decide +kernel) ?_
          refine x_A k179_106 (fun _ => rfl) ?_
          refine x_lmul_any k179_108 (fun z22 b_z22 => ?_)
          refine x_A k179_109 (fun _ => rfl) ?_
          refine x_i2l k179_111 (by first | exact x_rb b_h rfl rfl | exact ⟨by omega, by omega⟩) ?_
          refine x_ladd_any k179_112 (fun z23 b_z23 => ?_)
          refine x_ldc2 k179_113 (z := 96) rfl (by decide +kernel) ?_
          refine x_lsub_any k179_116 (fun z24 b_z24 => ?_)
          exact x_lret k179_117 rfl ⟨hG0, f0, z24, rfl, b_z24⟩
        · skip
          refine x_A k179_98 (fun _ => rfl) ?_
          refine x_goto k179_100 (t := 117) rfl ?_
          exact x_lret k179_117 rfl ⟨hG0, f0, z12, rfl, b_z12⟩
    · skip
      refine x_A k179_47 (fun _ => rfl) ?_
      refine x_goto k179_49 (t := 65) rfl ?_
      refine x_lstore k179_65 (ls' := [(6, vj z8), (0, vi a), (1, vi b), (2, vi d), (3, vi e), (4, vi g), (5, vi h)]) (by decide) rfl ?_
      refine x_A k179_67 (fun _ => rfl) ?_
      refine x_if_ne k179_69 (t := 77) rfl (by first | exact x_rb b_g rfl rfl | exact ⟨by omega, by omega⟩) (fun c25 => ?_) (fun c25 => ?_)
      · skip
        refine x_ldc2 k179_77 (z := 27) rfl (by decide +kernel) ?_
        refine x_A k179_80 (fun _ => rfl) ?_
        refine x_lmul_any k179_82 (fun z26 b_z26 => ?_)
        refine x_A k179_83 (fun _ => rfl) ?_
        refine x_i2l k179_85 (by first | exact x_rb b_g rfl rfl | exact ⟨by omega, by omega⟩) ?_
        refine x_ladd_any k179_86 (fun z27 b_z27 => ?_)
        refine x_ldc2 k179_87 (z := 96) rfl (by decide +kernel) ?_
        refine x_lsub_any k179_90 (fun z28 b_z28 => ?_)
        refine x_lstore k179_91 (ls' := [(6, vj z28), (0, vi a), (1, vi b), (2, vi d), (3, vi e), (4, vi g), (5, vi h)]) (by decide) rfl ?_
        refine x_A k179_93 (fun _ => rfl) ?_
        refine x_if_ne k179_95 (t := 103) rfl (by first | exact x_rb b_h rfl rfl | exact ⟨by omega, by omega⟩) (fun c29 => ?_) (fun c29 => ?_)
        · skip
          refine x_ldc2 k179_103 (z := 27) rfl (by decide +kernel) ?_
          refine x_A k179_106 (fun _ => rfl) ?_
          refine x_lmul_any k179_108 (fun z30 b_z30 => ?_)
          refine x_A k179_109 (fun _ => rfl) ?_
          refine x_i2l k179_111 (by first | exact x_rb b_h rfl rfl | exact ⟨by omega, by omega⟩) ?_
          refine x_ladd_any k179_112 (fun z31 b_z31 => ?_)
          refine x_ldc2 k179_113 (z := 96) rfl (by decide +kernel) ?_
          refine x_lsub_any k179_116 (fun z32 b_z32 => ?_)
          exact x_lret k179_117 rfl ⟨hG0, f0, z32, rfl, b_z32⟩
        · skip
          refine x_A k179_98 (fun _ => rfl) ?_
          refine x_goto k179_100 (t := 117) rfl ?_
          exact x_lret k179_117 rfl ⟨hG0, f0, z28, rfl, b_z28⟩
      · skip
        refine x_A k179_72 (fun _ => rfl) ?_
        refine x_goto k179_74 (t := 91) rfl ?_
        refine x_lstore k179_91 (ls' := [(6, vj z8), (0, vi a), (1, vi b), (2, vi d), (3, vi e), (4, vi g), (5, vi h)]) (by decide) rfl ?_
        refine x_A k179_93 (fun _ => rfl) ?_
        refine x_if_ne k179_95 (t := 103) rfl (by first | exact x_rb b_h rfl rfl | exact ⟨by omega, by omega⟩) (fun c33 => ?_) (fun c33 => ?_)
        · skip
          refine x_ldc2 k179_103 (z := 27) rfl (by decide +kernel) ?_
          refine x_A k179_106 (fun _ => rfl) ?_
          refine x_lmul_any k179_108 (fun z34 b_z34 => ?_)
          refine x_A k179_109 (fun _ => rfl) ?_
          refine x_i2l k179_111 (by first | exact x_rb b_h rfl rfl | exact ⟨by omega, by omega⟩) ?_
          refine x_ladd_any k179_112 (fun z35 b_z35 => ?_)
          refine x_ldc2 k179_113 (z := 96) rfl (by decide +kernel) ?_
          refine x_lsub_any k179_116 (fun z36 b_z36 => ?_)
          exact x_lret k179_117 rfl ⟨hG0, f0, z36, rfl, b_z36⟩
        · skip
          refine x_A k179_98 (fun _ => rfl) ?_
          refine x_goto k179_100 (t := 117) rfl ?_
          exact x_lret k179_117 rfl ⟨hG0, f0, z8, rfl, b_z8⟩
  · skip
    refine x_A k179_23 (fun _ => rfl) ?_
    refine x_goto k179_25 (t := 41) rfl ?_
    refine x_lstore k179_41 (ls' := [(6, vj z4), (0, vi a), (1, vi b), (2, vi d), (3, vi e), (4, vi g), (5, vi h)]) (by decide) rfl ?_
    refine x_A k179_43 (fun _ => rfl) ?_
    refine x_if_ne k179_44 (t := 52) rfl (by first | exact x_rb b_e rfl rfl | exact ⟨by omega, by omega⟩) (fun c37 => ?_) (fun c37 => ?_)
    · skip
      refine x_ldc2 k179_52 (z := 27) rfl (by decide +kernel) ?_
      refine x_A k179_55 (fun _ => rfl) ?_
      refine x_lmul_any k179_57 (fun z38 b_z38 => ?_)
      refine x_A k179_58 (fun _ => rfl) ?_
      refine x_i2l k179_59 (by first | exact x_rb b_e rfl rfl | exact ⟨by omega, by omega⟩) ?_
      refine x_ladd_any k179_60 (fun z39 b_z39 => ?_)
      refine x_ldc2 k179_61 (z := 96) rfl (by decide +kernel) ?_
      refine x_lsub_any k179_64 (fun z40 b_z40 => ?_)
      refine x_lstore k179_65 (ls' := [(6, vj z40), (0, vi a), (1, vi b), (2, vi d), (3, vi e), (4, vi g), (5, vi h)]) (by decide) rfl ?_
      refine x_A k179_67 (fun _ => rfl) ?_
      refine x_if_ne k179_69 (t := 77) rfl (by first | exact x_rb b_g rfl rfl | exact ⟨by omega, by omega⟩) (fun c41 => ?_) (fun c41 => ?_)
      · skip
        refine x_ldc2 k179_77 (z := 27) rfl (by decide +kernel) ?_
        refine x_A k179_80 (fun _ => rfl) ?_
        refine x_lmul_any k179_82 (fun z42 b_z42 => ?_)
        refine x_A k179_83 (fun _ => rfl) ?_
        refine x_i2l k179_85 (by first | exact x_rb b_g rfl rfl | exact ⟨by omega, by omega⟩) ?_
        refine x_ladd_any k179_86 (fun z43 b_z43 => ?_)
        refine x_ldc2 k179_87 (z := 96) rfl (by decide +kernel) ?_
        refine x_lsub_any k179_90 (fun z44 b_z44 => ?_)
        refine x_lstore k179_91 (ls' := [(6, vj z44), (0, vi a), (1, vi b), (2, vi d), (3, vi e), (4, vi g), (5, vi h)]) (by decide) rfl ?_
        refine x_A k179_93 (fun _ => rfl) ?_
        refine x_if_ne k179_95 (t := 103) rfl (by first | exact x_rb b_h rfl rfl | exact ⟨by omega, by omega⟩) (fun c45 => ?_) (fun c45 => ?_)
        · skip
          refine x_ldc2 k179_103 (z := 27) rfl (by decide +kernel) ?_
          refine x_A k179_106 (fun _ => rfl) ?_
          refine x_lmul_any k179_108 (fun z46 b_z46 => ?_)
          refine x_A k179_109 (fun _ => rfl) ?_
          refine x_i2l k179_111 (by first | exact x_rb b_h rfl rfl | exact ⟨by omega, by omega⟩) ?_
          refine x_ladd_any k179_112 (fun z47 b_z47 => ?_)
          refine x_ldc2 k179_113 (z := 96) rfl (by decide +kernel) ?_
          refine x_lsub_any k179_116 (fun z48 b_z48 => ?_)
          exact x_lret k179_117 rfl ⟨hG0, f0, z48, rfl, b_z48⟩
        · skip
          refine x_A k179_98 (fun _ => rfl) ?_
          refine x_goto k179_100 (t := 117) rfl ?_
          exact x_lret k179_117 rfl ⟨hG0, f0, z44, rfl, b_z44⟩
      · skip
        refine x_A k179_72 (fun _ => rfl) ?_
        refine x_goto k179_74 (t := 91) rfl ?_
        refine x_lstore k179_91 (ls' := [(6, vj z40), (0, vi a), (1, vi b), (2, vi d), (3, vi e), (4, vi g), (5, vi h)]) (by decide) rfl ?_
        refine x_A k179_93 (fun _ => rfl) ?_
        refine x_if_ne k179_95 (t := 103) rfl (by first | exact x_rb b_h rfl rfl | exact ⟨by omega, by omega⟩) (fun c49 => ?_) (fun c49 => ?_)
        · skip
          refine x_ldc2 k179_103 (z := 27) rfl (by decide +kernel) ?_
          refine x_A k179_106 (fun _ => rfl) ?_
          refine x_lmul_any k179_108 (fun z50 b_z50 => ?_)
          refine x_A k179_109 (fun _ => rfl) ?_
          refine x_i2l k179_111 (by first | exact x_rb b_h rfl rfl | exact ⟨by omega, by omega⟩) ?_
          refine x_ladd_any k179_112 (fun z51 b_z51 => ?_)
          refine x_ldc2 k179_113 (z := 96) rfl (by decide +kernel) ?_
          refine x_lsub_any k179_116 (fun z52 b_z52 => ?_)
          exact x_lret k179_117 rfl ⟨hG0, f0, z52, rfl, b_z52⟩
        · skip
          refine x_A k179_98 (fun _ => rfl) ?_
          refine x_goto k179_100 (t := 117) rfl ?_
          exact x_lret k179_117 rfl ⟨hG0, f0, z40, rfl, b_z40⟩
    · skip
      refine x_A k179_47 (fun _ => rfl) ?_
      refine x_goto k179_49 (t := 65) rfl ?_
      refine x_lstore k179_65 (ls' := [(6, vj z4), (0, vi a), (1, vi b), (2, vi d), (3, vi e), (4, vi g), (5, vi h)]) (by decide) rfl ?_
      refine x_A k179_67 (fun _ => rfl) ?_
      refine x_if_ne k179_69 (t := 77) rfl (by first | exact x_rb b_g rfl rfl | exact ⟨by omega, by omega⟩) (fun c53 => ?_) (fun c53 => ?_)
      · skip
        refine x_ldc2 k179_77 (z := 27) rfl (by decide +kernel) ?_
        refine x_A k179_80 (fun _ => rfl) ?_
        refine x_lmul_any k179_82 (fun z54 b_z54 => ?_)
        refine x_A k179_83 (fun _ => rfl) ?_
        refine x_i2l k179_85 (by first | exact x_rb b_g rfl rfl | exact ⟨by omega, by omega⟩) ?_
        refine x_ladd_any k179_86 (fun z55 b_z55 => ?_)
        refine x_ldc2 k179_87 (z := 96) rfl (by decide +kernel) ?_
        refine x_lsub_any k179_90 (fun z56 b_z56 => ?_)
        refine x_lstore k179_91 (ls' := [(6, vj z56), (0, vi a), (1, vi b), (2, vi d), (3, vi e), (4, vi g), (5, vi h)]) (by decide) rfl ?_
        refine x_A k179_93 (fun _ => rfl) ?_
        refine x_if_ne k179_95 (t := 103) rfl (by first | exact x_rb b_h rfl rfl | exact ⟨by omega, by omega⟩) (fun c57 => ?_) (fun c57 => ?_)
        · skip
          refine x_ldc2 k179_103 (z := 27) rfl (by decide +kernel) ?_
          refine x_A k179_106 (fun _ => rfl) ?_
          refine x_lmul_any k179_108 (fun z58 b_z58 => ?_)
          refine x_A k179_109 (fun _ => rfl) ?_
          refine x_i2l k179_111 (by first | exact x_rb b_h rfl rfl | exact ⟨by omega, by omega⟩) ?_
          refine x_ladd_any k179_112 (fun z59 b_z59 => ?_)
          refine x_ldc2 k179_113 (z := 96) rfl (by decide +kernel) ?_
          refine x_lsub_any k179_116 (fun z60 b_z60 => ?_)
          exact x_lret k179_117 rfl ⟨hG0, f0, z60, rfl, b_z60⟩
        · skip
          refine x_A k179_98 (fun _ => rfl) ?_
          refine x_goto k179_100 (t := 117) rfl ?_
          exact x_lret k179_117 rfl ⟨hG0, f0, z56, rfl, b_z56⟩
      · skip
        refine x_A k179_72 (fun _ => rfl) ?_
        refine x_goto k179_74 (t := 91) rfl ?_
        refine x_lstore k179_91 (ls' := [(6, vj z4), (0, vi a), (1, vi b), (2, vi d), (3, vi e), (4, vi g), (5, vi h)]) (by decide) rfl ?_
        refine x_A k179_93 (fun _ => rfl) ?_
        refine x_if_ne k179_95 (t := 103) rfl (by first | exact x_rb b_h rfl rfl | exact ⟨by omega, by omega⟩) (fun c61 => ?_) (fun c61 => ?_)
        · skip
          refine x_ldc2 k179_103 (z := 27) rfl (by decide +kernel) ?_
          refine x_A k179_106 (fun _ => rfl) ?_
          refine x_lmul_any k179_108 (fun z62 b_z62 => ?_)
          refine x_A k179_109 (fun _ => rfl) ?_
          refine x_i2l k179_111 (by first | exact x_rb b_h rfl rfl | exact ⟨by omega, by omega⟩) ?_
          refine x_ladd_any k179_112 (fun z63 b_z63 => ?_)
          refine x_ldc2 k179_113 (z := 96) rfl (by decide +kernel) ?_
          refine x_lsub_any k179_116 (fun z64 b_z64 => ?_)
          exact x_lret k179_117 rfl ⟨hG0, f0, z64, rfl, b_z64⟩
        · skip
          refine x_A k179_98 (fun _ => rfl) ?_
          refine x_goto k179_100 (t := 117) rfl ?_
          exact x_lret k179_117 rfl ⟨hG0, f0, z4, rfl, b_z4⟩
theorem C_X11_senseOf_256 (s0 : xS) (hG0 : GI s0)  : xe none 182 0 (lv_args 0 [.ref 256]) [] s0 0 0 (fun s' v => GI s' ∧ FL [] s0 s' ∧ ∃ z, v = some (vi z) ∧ ((-1) ≤ z ∧ z ≤ 2)) := by
  have f0 : FL [] s0 s0 := FL.rf
  show xe none 182 0 [(0, .ref 256)] [] s0 0 0 _
  refine x_A k182_0 (fun _ => rfl) ?_
  refine x_getJ k182_1 (f := 37) rfl (q := 256) (n := 62) (kd := 15) ⟨by decide, rfl⟩ (by decide) rfl ?_
  refine x_topL (fun z1 e_z1 => ?_)
  have b_z1 : in64 z1 := by rw [e_z1]; exact hG0 256 37
  refine x_bipush k182_4 (by decide +kernel) ?_
  refine x_bipush k182_6 (by decide +kernel) ?_
  refine x_bipush k182_8 (by decide +kernel) ?_
  refine x_bipush k182_10 (by decide +kernel) ?_
  refine x_bipush k182_12 (by decide +kernel) ?_
  refine x_A k182_14 (fun _ => rfl) ?_
  refine x_callS k182_15 (y := 179) (n := 6) (w0 := 2) (w1 := 6) (as := [vi 107, vi 101, vi 101, vi 112, vi 115, vi 0]) (rest := [vj z1]) (by decide +kernel) rfl rfl rfl rfl (xe_mono (C_X11_code s0 hG0 107 ⟨by decide, by decide⟩ 101 ⟨by decide, by decide⟩ 101 ⟨by decide, by decide⟩ 112 ⟨by decide, by decide⟩ 115 ⟨by decide, by decide⟩ 0 ⟨by decide, by decide⟩) ?_)
  rintro s3 v ⟨-, t_s3, z2, rfl, b_z2⟩
  rw [t_s3.nil]
  show xe none 182 18 [(0, .ref 256)] [vj z2, vj z1] s0 0 0 _
  refine x_lc_ne k182_18 k182_19 (t := 26) rfl b_z1 b_z2 (fun c4 => ?_) (fun c4 => ?_)
  · skip
    refine x_A k182_26 (fun _ => rfl) ?_
    refine x_getJ k182_27 (f := 37) rfl (q := 256) (n := 62) (kd := 15) ⟨by decide, rfl⟩ (by decide) rfl ?_
    refine x_topL (fun z5 e_z5 => ?_)
    have b_z5 : in64 z5 := by rw [e_z5]; exact hG0 256 37
    refine x_bipush k182_30 (by decide +kernel) ?_
    refine x_bipush k182_32 (by decide +kernel) ?_
    refine x_bipush k182_34 (by decide +kernel) ?_
    refine x_bipush k182_36 (by decide +kernel) ?_
    refine x_bipush k182_38 (by decide +kernel) ?_
    refine x_A k182_40 (fun _ => rfl) ?_
    refine x_callS k182_41 (y := 179) (n := 6) (w0 := 2) (w1 := 6) (as := [vi 116, vi 117, vi 114, vi 110, vi 115, vi 0]) (rest := [vj z5]) (by decide +kernel) rfl rfl rfl rfl (xe_mono (C_X11_code s0 hG0 116 ⟨by decide, by decide⟩ 117 ⟨by decide, by decide⟩ 114 ⟨by decide, by decide⟩ 110 ⟨by decide, by decide⟩ 115 ⟨by decide, by decide⟩ 0 ⟨by decide, by decide⟩) ?_)
    rintro s7 v ⟨-, t_s7, z6, rfl, b_z6⟩
    rw [t_s7.nil]
    show xe none 182 44 [(0, .ref 256)] [vj z6, vj z5] s0 0 0 _
    refine x_lc_ne k182_44 k182_45 (t := 52) rfl b_z5 b_z6 (fun c8 => ?_) (fun c8 => ?_)
    · skip
      refine x_A k182_52 (fun _ => rfl) ?_
      refine x_getJ k182_53 (f := 37) rfl (q := 256) (n := 62) (kd := 15) ⟨by decide, rfl⟩ (by decide) rfl ?_
      refine x_topL (fun z9 e_z9 => ?_)
      have b_z9 : in64 z9 := by rw [e_z9]; exact hG0 256 37
      refine x_bipush k182_56 (by decide +kernel) ?_
      refine x_bipush k182_58 (by decide +kernel) ?_
      refine x_bipush k182_60 (by decide +kernel) ?_
      refine x_bipush k182_62 (by decide +kernel) ?_
      refine x_bipush k182_64 (by decide +kernel) ?_
      refine x_bipush k182_66 (by decide +kernel) ?_
      refine x_callS k182_68 (y := 179) (n := 6) (w0 := 2) (w1 := 6) (as := [vi 114, vi 97, vi 105, vi 115, vi 101, vi 115]) (rest := [vj z9]) (by decide +kernel) rfl rfl rfl rfl (xe_mono (C_X11_code s0 hG0 114 ⟨by decide, by decide⟩ 97 ⟨by decide, by decide⟩ 105 ⟨by decide, by decide⟩ 115 ⟨by decide, by decide⟩ 101 ⟨by decide, by decide⟩ 115 ⟨by decide, by decide⟩) ?_)
      rintro s11 v ⟨-, t_s11, z10, rfl, b_z10⟩
      rw [t_s11.nil]
      show xe none 182 71 [(0, .ref 256)] [vj z10, vj z9] s0 0 0 _
      refine x_lc_ne k182_71 k182_72 (t := 79) rfl b_z9 b_z10 (fun c12 => ?_) (fun c12 => ?_)
      · skip
        refine x_A k182_79 (fun _ => rfl) ?_
        exact x_iret k182_80 rfl ⟨hG0, f0, (-1), rfl, ⟨by decide, by decide⟩⟩
      · skip
        refine x_A k182_75 (fun _ => rfl) ?_
        refine x_goto k182_76 (t := 80) rfl ?_
        exact x_iret k182_80 rfl ⟨hG0, f0, 2, rfl, ⟨by decide, by decide⟩⟩
    · skip
      refine x_A k182_48 (fun _ => rfl) ?_
      refine x_goto k182_49 (t := 80) rfl ?_
      exact x_iret k182_80 rfl ⟨hG0, f0, 1, rfl, ⟨by decide, by decide⟩⟩
  · skip
    refine x_A k182_22 (fun _ => rfl) ?_
    refine x_goto k182_23 (t := 80) rfl ?_
    exact x_iret k182_80 rfl ⟨hG0, f0, 0, rfl, ⟨by decide, by decide⟩⟩
theorem C_X11_keyOf_256 (s0 : xS) (hG0 : GI s0)  : xe none 183 0 (lv_args 0 [.ref 256]) [] s0 0 0 (fun s' v => GI s' ∧ FL [] s0 s' ∧ ∃ z, v = some (vi z) ∧ ((-1) ≤ z ∧ z ≤ 5)) := by
  have f0 : FL [] s0 s0 := FL.rf
  show xe none 183 0 [(0, .ref 256)] [] s0 0 0 _
  refine x_A k183_0 (fun _ => rfl) ?_
  refine x_getJ k183_1 (f := 37) rfl (q := 256) (n := 62) (kd := 15) ⟨by decide, rfl⟩ (by decide) rfl ?_
  refine x_topL (fun z1 e_z1 => ?_)
  have b_z1 : in64 z1 := by rw [e_z1]; exact hG0 256 37
  refine x_bipush k183_4 (by decide +kernel) ?_
  refine x_bipush k183_6 (by decide +kernel) ?_
  refine x_bipush k183_8 (by decide +kernel) ?_
  refine x_A k183_10 (fun _ => rfl) ?_
  refine x_A k183_11 (fun _ => rfl) ?_
  refine x_A k183_12 (fun _ => rfl) ?_
  refine x_callS k183_13 (y := 179) (n := 6) (w0 := 2) (w1 := 6) (as := [vi 107, vi 101, vi 121, vi 0, vi 0, vi 0]) (rest := [vj z1]) (by decide +kernel) rfl rfl rfl rfl (xe_mono (C_X11_code s0 hG0 107 ⟨by decide, by decide⟩ 101 ⟨by decide, by decide⟩ 121 ⟨by decide, by decide⟩ 0 ⟨by decide, by decide⟩ 0 ⟨by decide, by decide⟩ 0 ⟨by decide, by decide⟩) ?_)
  rintro s3 v ⟨-, t_s3, z2, rfl, b_z2⟩
  rw [t_s3.nil]
  show xe none 183 16 [(0, .ref 256)] [vj z2, vj z1] s0 0 0 _
  refine x_lc_ne k183_16 k183_17 (t := 24) rfl b_z1 b_z2 (fun c4 => ?_) (fun c4 => ?_)
  · skip
    refine x_A k183_24 (fun _ => rfl) ?_
    refine x_getJ k183_25 (f := 37) rfl (q := 256) (n := 62) (kd := 15) ⟨by decide, rfl⟩ (by decide) rfl ?_
    refine x_topL (fun z5 e_z5 => ?_)
    have b_z5 : in64 z5 := by rw [e_z5]; exact hG0 256 37
    refine x_bipush k183_28 (by decide +kernel) ?_
    refine x_bipush k183_30 (by decide +kernel) ?_
    refine x_bipush k183_32 (by decide +kernel) ?_
    refine x_bipush k183_34 (by decide +kernel) ?_
    refine x_bipush k183_36 (by decide +kernel) ?_
    refine x_A k183_38 (fun _ => rfl) ?_
    refine x_callS k183_39 (y := 179) (n := 6) (w0 := 2) (w1 := 6) (as := [vi 97, vi 108, vi 108, vi 111, vi 119, vi 0]) (rest := [vj z5]) (by decide +kernel) rfl rfl rfl rfl (xe_mono (C_X11_code s0 hG0 97 ⟨by decide, by decide⟩ 108 ⟨by decide, by decide⟩ 108 ⟨by decide, by decide⟩ 111 ⟨by decide, by decide⟩ 119 ⟨by decide, by decide⟩ 0 ⟨by decide, by decide⟩) ?_)
    rintro s7 v ⟨-, t_s7, z6, rfl, b_z6⟩
    rw [t_s7.nil]
    show xe none 183 42 [(0, .ref 256)] [vj z6, vj z5] s0 0 0 _
    refine x_lc_ne k183_42 k183_43 (t := 50) rfl b_z5 b_z6 (fun c8 => ?_) (fun c8 => ?_)
    · skip
      refine x_A k183_50 (fun _ => rfl) ?_
      refine x_getJ k183_51 (f := 37) rfl (q := 256) (n := 62) (kd := 15) ⟨by decide, rfl⟩ (by decide) rfl ?_
      refine x_topL (fun z9 e_z9 => ?_)
      have b_z9 : in64 z9 := by rw [e_z9]; exact hG0 256 37
      refine x_bipush k183_54 (by decide +kernel) ?_
      refine x_bipush k183_56 (by decide +kernel) ?_
      refine x_bipush k183_58 (by decide +kernel) ?_
      refine x_A k183_60 (fun _ => rfl) ?_
      refine x_A k183_61 (fun _ => rfl) ?_
      refine x_A k183_62 (fun _ => rfl) ?_
      refine x_callS k183_63 (y := 179) (n := 6) (w0 := 2) (w1 := 6) (as := [vi 98, vi 97, vi 114, vi 0, vi 0, vi 0]) (rest := [vj z9]) (by decide +kernel) rfl rfl rfl rfl (xe_mono (C_X11_code s0 hG0 98 ⟨by decide, by decide⟩ 97 ⟨by decide, by decide⟩ 114 ⟨by decide, by decide⟩ 0 ⟨by decide, by decide⟩ 0 ⟨by decide, by decide⟩ 0 ⟨by decide, by decide⟩) ?_)
      rintro s11 v ⟨-, t_s11, z10, rfl, b_z10⟩
      rw [t_s11.nil]
      show xe none 183 66 [(0, .ref 256)] [vj z10, vj z9] s0 0 0 _
      refine x_lc_ne k183_66 k183_67 (t := 74) rfl b_z9 b_z10 (fun c12 => ?_) (fun c12 => ?_)
      · skip
        refine x_A k183_74 (fun _ => rfl) ?_
        refine x_getJ k183_75 (f := 37) rfl (q := 256) (n := 62) (kd := 15) ⟨by decide, rfl⟩ (by decide) rfl ?_
        refine x_topL (fun z13 e_z13 => ?_)
        have b_z13 : in64 z13 := by rw [e_z13]; exact hG0 256 37
        refine x_bipush k183_78 (by decide +kernel) ?_
        refine x_bipush k183_80 (by decide +kernel) ?_
        refine x_bipush k183_82 (by decide +kernel) ?_
        refine x_bipush k183_84 (by decide +kernel) ?_
        refine x_A k183_86 (fun _ => rfl) ?_
        refine x_A k183_87 (fun _ => rfl) ?_
        refine x_callS k183_88 (y := 179) (n := 6) (w0 := 2) (w1 := 6) (as := [vi 110, vi 101, vi 101, vi 100, vi 0, vi 0]) (rest := [vj z13]) (by decide +kernel) rfl rfl rfl rfl (xe_mono (C_X11_code s0 hG0 110 ⟨by decide, by decide⟩ 101 ⟨by decide, by decide⟩ 101 ⟨by decide, by decide⟩ 100 ⟨by decide, by decide⟩ 0 ⟨by decide, by decide⟩ 0 ⟨by decide, by decide⟩) ?_)
        rintro s15 v ⟨-, t_s15, z14, rfl, b_z14⟩
        rw [t_s15.nil]
        show xe none 183 91 [(0, .ref 256)] [vj z14, vj z13] s0 0 0 _
        refine x_lc_ne k183_91 k183_92 (t := 99) rfl b_z13 b_z14 (fun c16 => ?_) (fun c16 => ?_)
        · skip
          refine x_A k183_99 (fun _ => rfl) ?_
          refine x_getJ k183_100 (f := 37) rfl (q := 256) (n := 62) (kd := 15) ⟨by decide, rfl⟩ (by decide) rfl ?_
          refine x_topL (fun z17 e_z17 => ?_)
          have b_z17 : in64 z17 := by rw [e_z17]; exact hG0 256 37
          refine x_bipush k183_103 (by decide +kernel) ?_
          refine x_bipush k183_105 (by decide +kernel) ?_
          refine x_bipush k183_107 (by decide +kernel) ?_
          refine x_bipush k183_109 (by decide +kernel) ?_
          refine x_A k183_111 (fun _ => rfl) ?_
          refine x_A k183_112 (fun _ => rfl) ?_
          refine x_callS k183_113 (y := 179) (n := 6) (w0 := 2) (w1 := 6) (as := [vi 109, vi 111, vi 115, vi 116, vi 0, vi 0]) (rest := [vj z17]) (by decide +kernel) rfl rfl rfl rfl (xe_mono (C_X11_code s0 hG0 109 ⟨by decide, by decide⟩ 111 ⟨by decide, by decide⟩ 115 ⟨by decide, by decide⟩ 116 ⟨by decide, by decide⟩ 0 ⟨by decide, by decide⟩ 0 ⟨by decide, by decide⟩) ?_)
          rintro s19 v ⟨-, t_s19, z18, rfl, b_z18⟩
          rw [t_s19.nil]
          show xe none 183 116 [(0, .ref 256)] [vj z18, vj z17] s0 0 0 _
          refine x_lc_ne k183_116 k183_117 (t := 124) rfl b_z17 b_z18 (fun c20 => ?_) (fun c20 => ?_)
          · skip
            refine x_A k183_124 (fun _ => rfl) ?_
            refine x_getJ k183_125 (f := 37) rfl (q := 256) (n := 62) (kd := 15) ⟨by decide, rfl⟩ (by decide) rfl ?_
            refine x_topL (fun z21 e_z21 => ?_)
            have b_z21 : in64 z21 := by rw [e_z21]; exact hG0 256 37
            refine x_bipush k183_128 (by decide +kernel) ?_
            refine x_bipush k183_130 (by decide +kernel) ?_
            refine x_bipush k183_132 (by decide +kernel) ?_
            refine x_bipush k183_134 (by decide +kernel) ?_
            refine x_bipush k183_136 (by decide +kernel) ?_
            refine x_bipush k183_138 (by decide +kernel) ?_
            refine x_callS k183_140 (y := 179) (n := 6) (w0 := 2) (w1 := 6) (as := [vi 115, vi 116, vi 114, vi 105, vi 107, vi 101]) (rest := [vj z21]) (by decide +kernel) rfl rfl rfl rfl (xe_mono (C_X11_code s0 hG0 115 ⟨by decide, by decide⟩ 116 ⟨by decide, by decide⟩ 114 ⟨by decide, by decide⟩ 105 ⟨by decide, by decide⟩ 107 ⟨by decide, by decide⟩ 101 ⟨by decide, by decide⟩) ?_)
            rintro s23 v ⟨-, t_s23, z22, rfl, b_z22⟩
            rw [t_s23.nil]
            show xe none 183 143 [(0, .ref 256)] [vj z22, vj z21] s0 0 0 _
            refine x_lc_ne k183_143 k183_144 (t := 151) rfl b_z21 b_z22 (fun c24 => ?_) (fun c24 => ?_)
            · skip
              refine x_A k183_151 (fun _ => rfl) ?_
              exact x_iret k183_152 rfl ⟨hG0, f0, (-1), rfl, ⟨by decide, by decide⟩⟩
            · skip
              refine x_A k183_147 (fun _ => rfl) ?_
              refine x_goto k183_148 (t := 152) rfl ?_
              exact x_iret k183_152 rfl ⟨hG0, f0, 5, rfl, ⟨by decide, by decide⟩⟩
          · skip
            refine x_A k183_120 (fun _ => rfl) ?_
            refine x_goto k183_121 (t := 152) rfl ?_
            exact x_iret k183_152 rfl ⟨hG0, f0, 4, rfl, ⟨by decide, by decide⟩⟩
        · skip
          refine x_A k183_95 (fun _ => rfl) ?_
          refine x_goto k183_96 (t := 152) rfl ?_
          exact x_iret k183_152 rfl ⟨hG0, f0, 3, rfl, ⟨by decide, by decide⟩⟩
      · skip
        refine x_A k183_70 (fun _ => rfl) ?_
        refine x_goto k183_71 (t := 152) rfl ?_
        exact x_iret k183_152 rfl ⟨hG0, f0, 2, rfl, ⟨by decide, by decide⟩⟩
    · skip
      refine x_A k183_46 (fun _ => rfl) ?_
      refine x_goto k183_47 (t := 152) rfl ?_
      exact x_iret k183_152 rfl ⟨hG0, f0, 1, rfl, ⟨by decide, by decide⟩⟩
  · skip
    refine x_A k183_20 (fun _ => rfl) ?_
    refine x_goto k183_21 (t := 152) rfl ?_
    exact x_iret k183_152 rfl ⟨hG0, f0, 0, rfl, ⟨by decide, by decide⟩⟩
theorem C_X0_emit_218 (s0 : xS) (hG0 : GI s0) (a : Int) (b_a : (-2147483648) ≤ a ∧ a ≤ 2147483647) : xe none 13 0 (lv_args 0 [.ref 218, vi a]) [] s0 0 0 (fun s' v => GI s' ∧ FL [2560, 2688] s0 s' ∧ v = none) := by
  have f0 : FL [2560, 2688] s0 s0 := FL.rf
  show xe none 13 0 [(0, .ref 218), (1, vi a)] [] s0 0 0 _
  refine x_A k13_0 (fun _ => rfl) ?_
  refine x_getI k13_1 (f := 6) rfl (q := 218) (n := 7) (kd := 11) ⟨by decide, rfl⟩ (by decide) rfl ?_
  refine x_top (fun z1 e_z1 => ?_)
  have g_z1 : (0 : Int) ≤ s0 218 6 ∧ s0 218 6 ≤ 8 := hG0 218 6
  refine x_bipush k13_4 (by decide +kernel) ?_
  refine x_ic_ge k13_6 (t := 23) rfl (by first | exact x_rbe e_z1 g_z1 rfl rfl | exact x_rb g_z1 rfl rfl | exact ⟨by omega, by omega⟩) ⟨by decide, by decide⟩ (fun c2 => ?_) (fun c2 => ?_)
  · skip
    exact x_vret k13_23 rfl ⟨hG0, f0, rfl⟩
  · skip
    refine x_A k13_9 (fun _ => rfl) ?_
    refine x_getR k13_10 (f := 0) rfl (q := 218) (n := 7) (kd := 11) ⟨by decide, rfl⟩ (q2 := 219) (by decide) rfl ?_
    refine x_A k13_13 (fun _ => rfl) ?_
    refine x_getI k13_14 (f := 6) rfl (q := 218) (n := 7) (kd := 11) ⟨by decide, rfl⟩ (by decide) rfl ?_
    rw [e_z1.symm]
    refine x_iald k13_17 (q := 219) (n := 8) ⟨by decide, rfl⟩ (by decide) (by first | exact x_rbel e_z1 g_z1 rfl rfl | exact x_rbl g_z1 rfl rfl | exact ⟨by omega, by omega⟩) ?_
    refine x_top (fun z3 e_z3 => ?_)
    have g_z3 : (0 : Int) ≤ s0 219 z1.toNat ∧ s0 219 z1.toNat ≤ 100 := hG0 219 z1.toNat
    refine x_bipush k13_18 (by decide +kernel) ?_
    refine x_ic_lt k13_20 (t := 24) rfl (by first | exact x_rbe e_z3 g_z3 rfl rfl | exact x_rb g_z3 rfl rfl | exact ⟨by omega, by omega⟩) ⟨by decide, by decide⟩ (fun c4 => ?_) (fun c4 => ?_)
    · skip
      refine x_A k13_24 (fun _ => rfl) ?_
      refine x_getR k13_25 (f := 1) rfl (q := 218) (n := 7) (kd := 11) ⟨by decide, rfl⟩ (q2 := 220) (by decide) rfl ?_
      refine x_A k13_28 (fun _ => rfl) ?_
      refine x_getI k13_29 (f := 6) rfl (q := 218) (n := 7) (kd := 11) ⟨by decide, rfl⟩ (by decide) rfl ?_
      rw [e_z1.symm]
      refine x_aald k13_32 (q := 220) (t := 23) (n := 8) ⟨by decide, rfl⟩ (by decide) (by decide) ⟨by omega, by omega⟩ ?_
      refine x_A k13_33 (fun _ => rfl) ?_
      refine x_getR k13_34 (f := 0) rfl (q := 218) (n := 7) (kd := 11) ⟨by decide, rfl⟩ (q2 := 219) (by decide) rfl ?_
      refine x_A k13_37 (fun _ => rfl) ?_
      refine x_getI k13_38 (f := 6) rfl (q := 218) (n := 7) (kd := 11) ⟨by decide, rfl⟩ (by decide) rfl ?_
      rw [e_z1.symm]
      refine x_iald k13_41 (q := 219) (n := 8) ⟨by decide, rfl⟩ (by decide) (by first | exact x_rbel e_z1 g_z1 rfl rfl | exact x_rbl g_z1 rfl rfl | exact ⟨by omega, by omega⟩) ?_
      rw [e_z3.symm]
      refine x_A k13_42 (fun _ => rfl) ?_
      refine x_iast k13_43 (q := (220 + 1 + z1.toNat)) (n := 100) (xg_221 (by omega) (by omega)) (by decide) (by first | exact x_rbel e_z3 g_z3 rfl rfl | exact x_rbl g_z3 rfl rfl | exact ⟨by omega, by omega⟩) ?_
      refine x_nh (fun s5 e_s5 => ?_)
      have w6 := gr_221 z3.toNat (show 221 ≤ (220 + 1 + z1.toNat) by omega) (by omega)
      have hG_s5 : GI s5 := by rw [e_s5]; exact hG0.up (by rw [w6.1, w6.2.1]; exact (show (-2147483648) ≤ a ∧ a ≤ 2147483647 from (by first | exact x_rb b_a rfl rfl | exact ⟨by omega, by omega⟩)))
      have f_s5 : FL [2560, 2688] s0 s5 := by rw [e_s5]; exact f0.up (by rw [w6.2.2]; decide)
      have q7 : s5 218 6 = z1 := by rw [e_s5, x_up_q (by omega)]; exact e_z1.symm
      have q8 : s5 219 z1.toNat = z3 := by rw [e_s5, x_up_q (by first | decide | omega)]; exact e_z3.symm
      have q9 : s5 (220 + 1 + z1.toNat) z3.toNat = a := by rw [e_s5]; exact x_up_same
      refine x_A k13_44 (fun _ => rfl) ?_
      refine x_getR k13_45 (f := 0) rfl (q := 218) (n := 7) (kd := 11) ⟨by decide, rfl⟩ (q2 := 219) (by decide) rfl ?_
      refine x_A k13_48 (fun _ => rfl) ?_
      refine x_getI k13_49 (f := 6) rfl (q := 218) (n := 7) (kd := 11) ⟨by decide, rfl⟩ (by decide) rfl ?_
      rw [q7]
      refine x_A k13_52 (fun _ => rfl) ?_
      refine x_iald k13_53 (q := 219) (n := 8) ⟨by decide, rfl⟩ (by decide) (by first | exact x_rbel e_z1 g_z1 rfl rfl | exact x_rbl g_z1 rfl rfl | exact ⟨by omega, by omega⟩) ?_
      rw [q8]
      refine x_A k13_54 (fun _ => rfl) ?_
      refine x_iadd k13_55 ?_
      refine x_top (fun z10 e_z10 => ?_)
      refine x_iast k13_56 (q := 219) (n := 8) ⟨by decide, rfl⟩ (by decide) (by first | exact x_rbel e_z1 g_z1 rfl rfl | exact x_rbl g_z1 rfl rfl | exact ⟨by omega, by omega⟩) ?_
      refine x_nh (fun s11 e_s11 => ?_)
      have hG_s11 : GI s11 := by rw [e_s11]; exact hG_s5.up (show 0 ≤ z10 ∧ z10 ≤ 100 from (by first | exact x_rbe e_z10 g_z10 rfl rfl | exact x_rb g_z10 rfl rfl | exact ⟨by omega, by omega⟩))
      have f_s11 : FL [2560, 2688] s0 s11 := by rw [e_s11]; exact f_s5.up (show 2560 ∈ [2560, 2688] from by decide +kernel)
      have q12 : s11 218 6 = z1 := by rw [e_s11, x_up_q (by decide)]; exact q7
      have q13 : s11 (220 + 1 + z1.toNat) z3.toNat = a := by rw [e_s11, x_up_q (by omega)]; exact q9
      have q14 : s11 219 z1.toNat = z10 := by rw [e_s11]; exact x_up_same
      exact x_vret k13_57 rfl ⟨hG_s11, f_s11, rfl⟩
    · skip
      exact x_vret k13_23 rfl ⟨hG0, f0, rfl⟩
theorem C_X0_hold_218 (s0 : xS) (hG0 : GI s0) (a : Int) (b_a : 0 ≤ a ∧ a ≤ 9) : xe none 11 0 (lv_args 0 [.ref 218, vi a]) [] s0 0 0 (fun s' v => GI s' ∧ FL [2501, 2816] s0 s' ∧ v = none) := by
  have f0 : FL [2501, 2816] s0 s0 := FL.rf
  show xe none 11 0 [(0, .ref 218), (1, vi a)] [] s0 0 0 _
  refine x_A k11_0 (fun _ => rfl) ?_
  refine x_getI k11_1 (f := 4) rfl (q := 218) (n := 7) (kd := 11) ⟨by decide, rfl⟩ (by decide) rfl ?_
  refine x_top (fun z1 e_z1 => ?_)
  have g_z1 : (0 : Int) ≤ s0 218 4 ∧ s0 218 4 ≤ 100 := hG0 218 4
  refine x_A k11_4 (fun _ => rfl) ?_
  refine x_getR k11_5 (f := 3) rfl (q := 218) (n := 7) (kd := 11) ⟨by decide, rfl⟩ (q2 := 230) (by decide) rfl ?_
  refine x_alen k11_8 (q := 230) (t := 20) (n := 100) (kd := 0) ⟨by decide, rfl⟩ (by decide) ?_
  refine x_top (fun z2 e_z2 => ?_)
  refine x_ic_lt k11_9 (t := 13) rfl (by first | exact x_rbe e_z1 g_z1 rfl rfl | exact x_rb g_z1 rfl rfl | exact ⟨by omega, by omega⟩) (by first | exact x_rbe e_z2 g_z2 rfl rfl | exact x_rb g_z2 rfl rfl | exact ⟨by omega, by omega⟩) (fun c3 => ?_) (fun c3 => ?_)
  · skip
    refine x_A k11_13 (fun _ => rfl) ?_
    refine x_getR k11_14 (f := 3) rfl (q := 218) (n := 7) (kd := 11) ⟨by decide, rfl⟩ (q2 := 230) (by decide) rfl ?_
    refine x_A k11_17 (fun _ => rfl) ?_
    refine x_getI k11_18 (f := 4) rfl (q := 218) (n := 7) (kd := 11) ⟨by decide, rfl⟩ (by decide) rfl ?_
    rw [e_z1.symm]
    refine x_A k11_21 (fun _ => rfl) ?_
    refine x_iast k11_22 (q := 230) (n := 100) ⟨by decide, rfl⟩ (by decide) (by first | exact x_rbel e_z1 g_z1 rfl rfl | exact x_rbl g_z1 rfl rfl | exact ⟨by omega, by omega⟩) ?_
    refine x_nh (fun s4 e_s4 => ?_)
    have hG_s4 : GI s4 := by rw [e_s4]; exact hG0.up (show 0 ≤ a ∧ a ≤ 9 from (by first | exact x_rb b_a rfl rfl | exact ⟨by omega, by omega⟩))
    have f_s4 : FL [2501, 2816] s0 s4 := by rw [e_s4]; exact f0.up (show 2816 ∈ [2501, 2816] from by decide +kernel)
    have q5 : s4 218 4 = z1 := by rw [e_s4, x_up_q (by decide)]; exact e_z1.symm
    have q6 : s4 230 z1.toNat = a := by rw [e_s4]; exact x_up_same
    refine x_A k11_23 (fun _ => rfl) ?_
    refine x_A k11_24 (fun _ => rfl) ?_
    refine x_getI k11_25 (f := 4) rfl (q := 218) (n := 7) (kd := 11) ⟨by decide, rfl⟩ (by decide) rfl ?_
    rw [q5]
    refine x_A k11_28 (fun _ => rfl) ?_
    refine x_iadd k11_29 ?_
    refine x_top (fun z7 e_z7 => ?_)
    refine x_putI k11_30 (f := 4) rfl (q := 218) (n := 7) (kd := 11) ⟨by decide, rfl⟩ rfl rfl rfl ?_
    refine x_nh (fun s8 e_s8 => ?_)
    have hG_s8 : GI s8 := by rw [e_s8]; exact hG_s4.up (show 0 ≤ z7 ∧ z7 ≤ 100 from (by first | exact x_rbe e_z7 g_z7 rfl rfl | exact x_rb g_z7 rfl rfl | exact ⟨by omega, by omega⟩))
    have f_s8 : FL [2501, 2816] s0 s8 := by rw [e_s8]; exact f_s4.up (show 2501 ∈ [2501, 2816] from by decide +kernel)
    have q9 : s8 218 4 = z7 := by rw [e_s8]; exact x_up_same
    have q10 : s8 230 z1.toNat = a := by rw [e_s8, x_up_q (by first | decide | omega)]; exact q6
    exact x_vret k11_33 rfl ⟨hG_s8, f_s8, rfl⟩
  · skip
    exact x_vret k11_12 rfl ⟨hG0, f0, rfl⟩
theorem L_C_X0_releaseDownTo_218_0 (s0 : xS)   : ∀ (n : Nat) (s : xS) (x1 : Int) (x1000 : Int) (hG : GI s) (f : FL [2501, 2560, 2688] s0 s) (b_x1 : (-2147483648) ≤ x1 ∧ x1 ≤ 2147483647) (b_x1000 : 0 ≤ x1000 ∧ x1000 ≤ 100) (e_x1000 : x1000 = s 218 4)  (hm : (x1000 - 0) < (n : Int)), xe none 12 0 [(0, .ref 218), (1, vi x1)] [] s 0 0 (fun s' v => GI s' ∧ FL [2501, 2560, 2688] s0 s' ∧ v = none) := by
  intro n
  induction n with
  | zero => intro s x1 x1000 hG f b_x1 b_x1000 e_x1000  hm; exfalso; omega
  | succ n ih =>
    intro s x1 x1000 hG f b_x1 b_x1000 e_x1000  hm
    refine x_A k12_0 (fun _ => rfl) ?_
    refine x_getI k12_1 (f := 4) rfl (q := 218) (n := 7) (kd := 11) ⟨by decide, rfl⟩ (by decide) rfl ?_
    rw [e_x1000.symm]
    refine x_if_le k12_4 (t := 52) rfl (by first | exact x_rb b_x1000 rfl rfl | exact ⟨by omega, by omega⟩) (fun c48 => ?_) (fun c48 => ?_)
    · skip
      exact x_vret k12_52 rfl ⟨hG, f, rfl⟩
    · skip
      refine x_A k12_7 (fun _ => rfl) ?_
      refine x_getR k12_8 (f := 3) rfl (q := 218) (n := 7) (kd := 11) ⟨by decide, rfl⟩ (q2 := 230) (by decide) rfl ?_
      refine x_A k12_11 (fun _ => rfl) ?_
      refine x_getI k12_12 (f := 4) rfl (q := 218) (n := 7) (kd := 11) ⟨by decide, rfl⟩ (by decide) rfl ?_
      rw [e_x1000.symm]
      refine x_A k12_15 (fun _ => rfl) ?_
      refine x_isub k12_16 ?_
      refine x_top (fun z49 e_z49 => ?_)
      refine x_iald k12_17 (q := 230) (n := 100) ⟨by decide, rfl⟩ (by decide) (by first | exact x_rbel e_z49 g_z49 rfl rfl | exact x_rbl g_z49 rfl rfl | exact ⟨by omega, by omega⟩) ?_
      refine x_top (fun z50 e_z50 => ?_)
      have g_z50 : (0 : Int) ≤ s 230 z49.toNat ∧ s 230 z49.toNat ≤ 9 := hG 230 z49.toNat
      refine x_A k12_18 (fun _ => rfl) ?_
      refine x_ic_lt k12_19 (t := 52) rfl (by first | exact x_rbe e_z50 g_z50 rfl rfl | exact x_rb g_z50 rfl rfl | exact ⟨by omega, by omega⟩) (by first | exact x_rb b_x1 rfl rfl | exact ⟨by omega, by omega⟩) (fun c51 => ?_) (fun c51 => ?_)
      · skip
        exact x_vret k12_52 rfl ⟨hG, f, rfl⟩
      · skip
        refine x_A k12_22 (fun _ => rfl) ?_
        refine x_A k12_23 (fun _ => rfl) ?_
        refine x_getI k12_24 (f := 4) rfl (q := 218) (n := 7) (kd := 11) ⟨by decide, rfl⟩ (by decide) rfl ?_
        rw [e_x1000.symm]
        refine x_A k12_27 (fun _ => rfl) ?_
        refine x_isub k12_28 ?_
        refine x_top (fun z52 e_z52 => ?_)
        refine x_putI k12_29 (f := 4) rfl (q := 218) (n := 7) (kd := 11) ⟨by decide, rfl⟩ rfl rfl rfl ?_
        refine x_nh (fun s53 e_s53 => ?_)
        have hG_s53 : GI s53 := by rw [e_s53]; exact hG.up (show 0 ≤ z52 ∧ z52 ≤ 100 from (by first | exact x_rbe e_z52 g_z52 rfl rfl | exact x_rb g_z52 rfl rfl | exact ⟨by omega, by omega⟩))
        have f_s53 : FL [2501, 2560, 2688] s0 s53 := by rw [e_s53]; exact f.up (show 2501 ∈ [2501, 2560, 2688] from by decide +kernel)
        have q54 : s53 218 4 = z52 := by rw [e_s53]; exact x_up_same
        have q55 : s53 230 z49.toNat = z50 := by rw [e_s53, x_up_q (by first | decide | omega)]; exact e_z50.symm
        refine x_A k12_32 (fun _ => rfl) ?_
        refine x_A k12_33 (fun _ => rfl) ?_
        refine x_getR k12_34 (f := 3) rfl (q := 218) (n := 7) (kd := 11) ⟨by decide, rfl⟩ (q2 := 230) (by decide) rfl ?_
        refine x_A k12_37 (fun _ => rfl) ?_
        refine x_getI k12_38 (f := 4) rfl (q := 218) (n := 7) (kd := 11) ⟨by decide, rfl⟩ (by decide) rfl ?_
        rw [q54]
        refine x_iald k12_41 (q := 230) (n := 100) ⟨by decide, rfl⟩ (by decide) (by first | exact x_rbel e_z52 g_z52 rfl rfl | exact x_rbl g_z52 rfl rfl | exact ⟨by omega, by omega⟩) ?_
        refine x_top (fun z56 e_z56 => ?_)
        have g_z56 : (0 : Int) ≤ s53 230 z52.toNat ∧ s53 230 z52.toNat ≤ 9 := hG_s53 230 z52.toNat
        refine x_sipush k12_42 (by decide +kernel) ?_
        refine x_imul k12_45 ?_
        refine x_top (fun z57 e_z57 => ?_)
        refine x_callV k12_46 (y := 13) (n := 1) (w0 := 0) (w1 := 1) (as := [vi z57]) (rest := []) (by decide +kernel) (q := 218) (nq := 7) (kq := 11) ⟨by decide, rfl⟩ rfl rfl rfl rfl (xe_mono (C_X0_emit_218 s53 hG_s53 z57 (by first | exact x_rbe e_z57 g_z57 rfl rfl | exact x_rb g_z57 rfl rfl | exact ⟨by omega, by omega⟩)) ?_)
        rintro s59 v ⟨hG_s59, t_s59, rfl⟩
        have f_s59 : FL [2501, 2560, 2688] s0 s59 := f_s53.tr t_s59 (by decide +kernel)
        have q60 : s59 218 4 = z52 := (t_s59 218 4 (show 2501 ∉ [2560, 2688] from by decide +kernel)).trans q54
        have q61 : s59 230 z49.toNat = z50 := (t_s59 230 z49.toNat (show 2816 ∉ [2560, 2688] from by decide +kernel)).trans q55
        have q62 : s59 230 z52.toNat = z56 := (t_s59 230 z52.toNat (show 2816 ∉ [2560, 2688] from by decide +kernel)).trans e_z56.symm
        show xe none 12 49 [(0, .ref 218), (1, vi x1)] [] s59 0 0 _
        refine x_goto k12_49 (t := 0) rfl ?_
        refine x_ls (l := [(0, .ref 218), (1, vi x1)]) (show ([0, 1] : List Nat).Nodup from by decide +kernel) ⟨rfl, rfl, trivial⟩ ?_
        exact ih s59 x1 z52 hG_s59 f_s59 (by first | exact x_rb b_x1 rfl rfl | exact ⟨by omega, by omega⟩) (by first | exact x_rbe e_z52 g_z52 rfl rfl | exact x_rb g_z52 rfl rfl | exact ⟨by omega, by omega⟩) (q60).symm  (by omega)
theorem C_X0_releaseDownTo_218 (s0 : xS) (hG0 : GI s0) (a : Int) (b_a : (-2147483648) ≤ a ∧ a ≤ 2147483647) : xe none 12 0 (lv_args 0 [.ref 218, vi a]) [] s0 0 0 (fun s' v => GI s' ∧ FL [2501, 2560, 2688] s0 s' ∧ v = none) := by
  have f0 : FL [2501, 2560, 2688] s0 s0 := FL.rf
  show xe none 12 0 [(0, .ref 218), (1, vi a)] [] s0 0 0 _
  obtain ⟨z63, e_z63⟩ : ∃ z, z = s0 218 4 := ⟨_, rfl⟩
  have g_z63 : (0 : Int) ≤ s0 218 4 ∧ s0 218 4 ≤ 100 := hG0 218 4
  refine x_ls (l := [(0, .ref 218), (1, vi a)]) (show ([0, 1] : List Nat).Nodup from by decide +kernel) ⟨rfl, rfl, trivial⟩ ?_
  exact L_C_X0_releaseDownTo_218_0 s0   (((z63 - 0) + 1 : Int)).toNat s0 a z63 hG0 f0 (by first | exact x_rb b_a rfl rfl | exact ⟨by omega, by omega⟩) (by first | exact x_rbe e_z63 g_z63 rfl rfl | exact x_rb g_z63 rfl rfl | exact ⟨by omega, by omega⟩) (e_z63.symm).symm  (by omega)
