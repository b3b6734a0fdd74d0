set_option maxHeartbeats 8000000 in
theorem E_X8_forget_243 (s0 : xS) (hG0 : GI s0)  : xe none 73 0 (lv_args 0 [.ref 243]) [] s0 0 0 (fun s' v => GI s' ∧ FL [3276, 3277] s0 s' ∧ v = none ∧ (s' 243 11 = 0 ∧ s' 243 12 = -1)) := by
  have f0 : FL [3276, 3277] s0 s0 := FL.rf
  show xe none 73 0 [(0, .ref 243)] [] s0 0 0 _
  refine x_A k73_0 (fun _ => rfl) ?_
  refine x_A k73_1 (fun _ => rfl) ?_
  refine x_putZ k73_2 (f := 11) rfl (q := 243) (n := 13) (kd := 13) ⟨by decide, rfl⟩ rfl rfl rfl ⟨by omega, by omega⟩ ?_
  refine x_nh (fun s1 e_s1 => ?_)
  have hG_s1 : GI s1 := by rw [e_s1]; exact hG0.up (show 0 ≤ 0 ∧ 0 ≤ 1 from ⟨by decide, by decide⟩)
  have f_s1 : FL [3276, 3277] s0 s1 := by rw [e_s1]; exact f0.up (show 3276 ∈ [3276, 3277] from by decide)
  have q2 : s1 243 11 = 0 := by rw [e_s1]; exact x_up_same
  refine x_A k73_5 (fun _ => rfl) ?_
  refine x_A k73_6 (fun _ => rfl) ?_
  refine x_putI k73_7 (f := 12) rfl (q := 243) (n := 13) (kd := 13) ⟨by decide, rfl⟩ rfl rfl rfl ?_
  refine x_nh (fun s3 e_s3 => ?_)
  have hG_s3 : GI s3 := by rw [e_s3]; exact hG_s1.up (show (-1) ≤ (-1) ∧ (-1) ≤ 9 from ⟨by decide, by decide⟩)
  have f_s3 : FL [3276, 3277] s0 s3 := by rw [e_s3]; exact f_s1.up (show 3277 ∈ [3276, 3277] from by decide)
  have q4 : s3 243 11 = 0 := by rw [e_s3, x_up_i (by decide)]; exact q2
  have q5 : s3 243 12 = (-1) := by rw [e_s3]; exact x_up_same
  exact x_vret k73_10 rfl ⟨hG_s3, f_s3, rfl, by omega⟩
set_option maxHeartbeats 8000000 in
theorem V_X11_tell_256 (s0 : xS) (hG0 : GI s0) (a : Int) (b_a : (-1) ≤ a ∧ a ≤ 39) (p_256_1 : 1 ≤ s0 256 1 ∧ s0 256 1 ≤ 39) (pa : 0 ≤ a ∧ a < s0 256 1) (i0_J : J s0) : xe none 139 0 (lv_args 0 [.ref 256, vi a]) [] s0 0 0 (fun s' v => GI s' ∧ FL [4098, 4160, 4224, 4288, 4352] s0 s' ∧ v = none ∧ (s' 256 1 = s0 256 1 + 1 ∧ (∀ j, s' 257 j = if j = (s0 256 1).toNat then s0 256 0 else s0 257 j) ∧ (∀ j, s' 258 j = if j = (s0 256 1).toNat then -1 else s0 258 j) ∧ (∀ j : Nat, s' 260 j = if 10 * s0 256 1 + s0 256 0 ≤ (j : Int) ∧ (j : Int) < 10 * s0 256 1 + 10 then a else s0 260 j) ∧ ∀ j : Nat, s' 259 j = if j = (s0 256 1).toNat then -1 else s0 259 j) ∧ J s') := by
  have f0 : FL [4098, 4160, 4224, 4288, 4352] s0 s0 := FL.rf
  show xe none 139 0 [(0, .ref 256), (1, vi a)] [] s0 0 0 _
  obtain ⟨z1, e_z1⟩ : ∃ z, z = s0 256 1 := ⟨_, rfl⟩
  have g_z1 : (1 : Int) ≤ s0 256 1 ∧ s0 256 1 ≤ 40 := hG0 256 1
  refine x_A k139_0 (fun _ => rfl) ?_
  refine x_getR k139_1 (f := 2) rfl (q := 256) (n := 62) (kd := 15) ⟨by decide, rfl⟩ (q2 := 257) (by decide) rfl ?_
  refine x_A k139_4 (fun _ => rfl) ?_
  refine x_getI k139_5 (f := 1) rfl (q := 256) (n := 62) (kd := 15) ⟨by decide, rfl⟩ (by decide) rfl ?_
  refine x_rw (e_z1.symm) ?_
  refine x_A k139_8 (fun _ => rfl) ?_
  refine x_getI k139_9 (f := 0) rfl (q := 256) (n := 62) (kd := 15) ⟨by decide, rfl⟩ (by decide) rfl ?_
  refine x_top (fun z2 e_z2 => ?_)
  have g_z2 : (0 : Int) ≤ s0 256 0 ∧ s0 256 0 ≤ 9 := hG0 256 0
  refine x_iast k139_12 (q := 257) (n := 40) ⟨by decide, rfl⟩ (by decide) (by first | exact x_rbel e_z1 g_z1 rfl rfl | exact x_rbl g_z1 rfl rfl | exact ⟨by omega, by omega⟩) ?_
  refine x_nh (fun s3 e_s3 => ?_)
  have hG_s3 : GI s3 := by rw [e_s3]; exact hG0.up (show 0 ≤ z2 ∧ z2 ≤ 9 from (by first | exact x_rbe e_z2 g_z2 rfl rfl | exact x_rb g_z2 rfl rfl | exact ⟨by omega, by omega⟩))
  have f_s3 : FL [4098, 4160, 4224, 4288, 4352] s0 s3 := by rw [e_s3]; exact f0.up (show 4160 ∈ [4098, 4160, 4224, 4288, 4352] from by decide)
  have q4 : s3 256 1 = z1 := by rw [e_s3, x_up_q (by decide)]; exact e_z1.symm
  have q5 : s3 256 0 = z2 := by rw [e_s3, x_up_q (by decide)]; exact e_z2.symm
  have q6 : s3 257 z1.toNat = z2 := by rw [e_s3]; exact x_up_same
  refine x_A k139_13 (fun _ => rfl) ?_
  refine x_getR k139_14 (f := 3) rfl (q := 256) (n := 62) (kd := 15) ⟨by decide, rfl⟩ (q2 := 258) (by decide) rfl ?_
  refine x_A k139_17 (fun _ => rfl) ?_
  refine x_getI k139_18 (f := 1) rfl (q := 256) (n := 62) (kd := 15) ⟨by decide, rfl⟩ (by decide) rfl ?_
  refine x_rw (q4) ?_
  refine x_A k139_21 (fun _ => rfl) ?_
  refine x_iast k139_22 (q := 258) (n := 40) ⟨by decide, rfl⟩ (by decide) (by first | exact x_rbel e_z1 g_z1 rfl rfl | exact x_rbl g_z1 rfl rfl | exact ⟨by omega, by omega⟩) ?_
  refine x_nh (fun s7 e_s7 => ?_)
  have hG_s7 : GI s7 := by rw [e_s7]; exact hG_s3.up (show (-1) ≤ (-1) ∧ (-1) ≤ 9 from ⟨by decide, by decide⟩)
  have f_s7 : FL [4098, 4160, 4224, 4288, 4352] s0 s7 := by rw [e_s7]; exact f_s3.up (show 4224 ∈ [4098, 4160, 4224, 4288, 4352] from by decide)
  have q8 : s7 256 1 = z1 := by rw [e_s7, x_up_q (by decide)]; exact q4
  have q9 : s7 256 0 = z2 := by rw [e_s7, x_up_q (by decide)]; exact q5
  have q10 : s7 257 z1.toNat = z2 := by rw [e_s7, x_up_q (by first | decide | omega)]; exact q6
  have q11 : s7 258 z1.toNat = (-1) := by rw [e_s7]; exact x_up_same
  refine x_A k139_23 (fun _ => rfl) ?_
  refine x_getR k139_24 (f := 4) rfl (q := 256) (n := 62) (kd := 15) ⟨by decide, rfl⟩ (q2 := 259) (by decide) rfl ?_
  refine x_A k139_27 (fun _ => rfl) ?_
  refine x_getI k139_28 (f := 1) rfl (q := 256) (n := 62) (kd := 15) ⟨by decide, rfl⟩ (by decide) rfl ?_
  refine x_rw (q8) ?_
  refine x_A k139_31 (fun _ => rfl) ?_
  refine x_iast k139_32 (q := 259) (n := 40) ⟨by decide, rfl⟩ (by decide) (by first | exact x_rbel e_z1 g_z1 rfl rfl | exact x_rbl g_z1 rfl rfl | exact ⟨by omega, by omega⟩) ?_
  refine x_nh (fun s12 e_s12 => ?_)
  have hG_s12 : GI s12 := by rw [e_s12]; exact hG_s7.up (show (-1) ≤ (-1) ∧ (-1) ≤ 39 from ⟨by decide, by decide⟩)
  have f_s12 : FL [4098, 4160, 4224, 4288, 4352] s0 s12 := by rw [e_s12]; exact f_s7.up (show 4288 ∈ [4098, 4160, 4224, 4288, 4352] from by decide)
  have q13 : s12 256 1 = z1 := by rw [e_s12, x_up_q (by decide)]; exact q8
  have q14 : s12 256 0 = z2 := by rw [e_s12, x_up_q (by decide)]; exact q9
  have q15 : s12 257 z1.toNat = z2 := by rw [e_s12, x_up_q (by first | decide | omega)]; exact q10
  have q16 : s12 258 z1.toNat = (-1) := by rw [e_s12, x_up_q (by first | decide | omega)]; exact q11
  have q17 : s12 259 z1.toNat = (-1) := by rw [e_s12]; exact x_up_same
  refine x_A k139_33 (fun _ => rfl) ?_
  refine x_A k139_34 (fun _ => rfl) ?_
  refine x_getI k139_35 (f := 1) rfl (q := 256) (n := 62) (kd := 15) ⟨by decide, rfl⟩ (by decide) rfl ?_
  refine x_rw (q13) ?_
  refine x_A k139_38 (fun _ => rfl) ?_
  refine x_iadd k139_39 ?_
  refine x_top (fun z18 e_z18 => ?_)
  refine x_putI k139_40 (f := 1) rfl (q := 256) (n := 62) (kd := 15) ⟨by decide, rfl⟩ rfl rfl rfl ?_
  refine x_nh (fun s19 e_s19 => ?_)
  have hG_s19 : GI s19 := by rw [e_s19]; exact hG_s12.up (show 1 ≤ z18 ∧ z18 ≤ 40 from (by first | exact x_rbe e_z18 g_z18 rfl rfl | exact x_rb g_z18 rfl rfl | exact ⟨by omega, by omega⟩))
  have f_s19 : FL [4098, 4160, 4224, 4288, 4352] s0 s19 := by rw [e_s19]; exact f_s12.up (show 4098 ∈ [4098, 4160, 4224, 4288, 4352] from by decide)
  have q20 : s19 256 0 = z2 := by rw [e_s19, x_up_i (by decide)]; exact q14
  have q21 : s19 256 1 = z18 := by rw [e_s19]; exact x_up_same
  have q22 : s19 257 z1.toNat = z2 := by rw [e_s19, x_up_q (by first | decide | omega)]; exact q15
  have q23 : s19 258 z1.toNat = (-1) := by rw [e_s19, x_up_q (by first | decide | omega)]; exact q16
  have q24 : s19 259 z1.toNat = (-1) := by rw [e_s19, x_up_q (by first | decide | omega)]; exact q17
  refine x_A k139_43 (fun _ => rfl) ?_
  refine x_A k139_44 (fun _ => rfl) ?_
  refine x_getI k139_45 (f := 1) rfl (q := 256) (n := 62) (kd := 15) ⟨by decide, rfl⟩ (by decide) rfl ?_
  refine x_rw (q21) ?_
  refine x_A k139_48 (fun _ => rfl) ?_
  refine x_isub k139_49 ?_
  refine x_top (fun z25 e_z25 => ?_)
  refine x_A k139_50 (fun _ => rfl) ?_
  have J_t : J s19 := by rw [e_s19, e_s12, e_s7, e_s3]; exact J.tell i0_J hG0 e_z1 e_z2 (by omega) (by omega)
  have x_t : ∀ k, xup s19 (s19 256 0) k a ≠ z1 := by rw [e_s19, e_s12, e_s7, e_s3]; exact J.tellx i0_J hG0 e_z1 (by omega)
  refine x_callV k139_51 (y := 140) (n := 2) (w0 := 0) (w1 := 2) (as := [vi z25, vi a]) (rest := []) (by decide +kernel) (q := 256) (nq := 62) (kq := 15) ⟨by decide, rfl⟩ rfl rfl rfl rfl (xe_mono (D_X11_hang_256 s19 hG_s19 z25 (by first | exact x_rbe e_z25 g_z25 rfl rfl | exact x_rb g_z25 rfl rfl | exact ⟨by omega, by omega⟩) a (by first | exact x_rb b_a rfl rfl | exact ⟨by omega, by omega⟩)) ?_)
  rintro s27 v ⟨hG_s27, t_s27, rfl, xp_z26⟩
  have f_s27 : FL [4098, 4160, 4224, 4288, 4352] s0 s27 := f_s19.tr t_s27 (by decide)
  have q28 : s27 256 0 = z2 := (t_s27 256 0 (show 4097 ∉ [4352] from by decide)).trans q20
  have q29 : s27 256 1 = z18 := (t_s27 256 1 (show 4098 ∉ [4352] from by decide)).trans q21
  have q30 : s27 257 z1.toNat = z2 := (t_s27 257 z1.toNat (show 4160 ∉ [4352] from by decide)).trans q22
  have q31 : s27 258 z1.toNat = (-1) := (t_s27 258 z1.toNat (show 4224 ∉ [4352] from by decide)).trans q23
  have q32 : s27 259 z1.toNat = (-1) := (t_s27 259 z1.toNat (show 4288 ∉ [4352] from by decide)).trans q24
  show xe none 139 54 [(0, .ref 256), (1, vi a)] [] s27 0 0 _
  have J_h : J s27 := J.hang J_t hG_s19 (m := z25) (p := a) ⟨by omega, by omega⟩ ⟨by omega, by rw [q21]; omega⟩ (by rw [show z25 = z1 by omega]; exact x_t) t_s27 xp_z26
  exact x_vret k139_54 rfl ⟨hG_s27, f_s27, rfl, ⟨by omega, fun j => by rw [t_s27 257 j (show 4160 ∉ _ from by decide), e_s19, x_up_q (by decide), e_s12, x_up_q (by decide), e_s7, x_up_q (by decide), e_s3, x_up_at, show z1 = s0 256 1 by omega, show z2 = s0 256 0 by omega], fun j => by rw [t_s27 258 j (show 4224 ∉ _ from by decide), e_s19, x_up_q (by decide), e_s12, x_up_q (by decide), e_s7, x_up_at, e_s3, x_up_q (by decide), show z1 = s0 256 1 by omega], fun j => by rw [xp_z26 j, show s19 256 0 = s0 256 0 by omega, show s19 260 j = s0 260 j by rw [e_s19, x_up_q (by decide), e_s12, x_up_q (by decide), e_s7, x_up_q (by decide), e_s3, x_up_q (by decide)], show z25 = s0 256 1 by omega], fun j => by rw [t_s27 259 j (show 4288 ∉ _ from by decide), e_s19, x_up_q (by decide), e_s12, x_up_at, e_s7, x_up_q (by decide), e_s3, x_up_q (by decide), show z1 = s0 256 1 by omega]⟩, J_h⟩
set_option maxHeartbeats 8000000 in
theorem V_X11_mark_256 (s0 : xS) (hG0 : GI s0) (a : Int) (b_a : (-2147483648) ≤ a ∧ a ≤ 2147483647) (p_256_1 : 1 ≤ s0 256 1 ∧ s0 256 1 ≤ 40) (p_256_0 : 0 ≤ s0 256 0 ∧ s0 256 0 ≤ 9) (i0_J : J s0) : xe none 146 0 (lv_args 0 [.ref 256, vi a]) [] s0 0 0 (fun s' v => GI s' ∧ FL [4098, 4160, 4224, 4288, 4352] s0 s' ∧ ∃ z, v = some (vi z) ∧ ((-1004) ≤ z ∧ z ≤ 39) ∧ (MkR s0 s' a z ∧ MkQ s0 s' a z ∧ MkJ s0 s' z) ∧ J s') := by
  have f0 : FL [4098, 4160, 4224, 4288, 4352] s0 s0 := FL.rf
  show xe none 146 0 [(0, .ref 256), (1, vi a)] [] s0 0 0 _
  obtain ⟨z1, e_z1⟩ : ∃ z, z = s0 256 1 := ⟨_, rfl⟩
  have g_z1 : (1 : Int) ≤ s0 256 1 ∧ s0 256 1 ≤ 40 := hG0 256 1
  obtain ⟨z2, e_z2⟩ : ∃ z, z = s0 256 0 := ⟨_, rfl⟩
  have g_z2 : (0 : Int) ≤ s0 256 0 ∧ s0 256 0 ≤ 9 := hG0 256 0
  refine x_A k146_0 (fun _ => rfl) ?_
  refine x_A k146_1 (fun _ => rfl) ?_
  refine x_callV k146_2 (y := 137) (n := 1) (w0 := 0) (w1 := 1) (as := [vi a]) (rest := []) (by decide +kernel) (q := 256) (nq := 62) (kq := 15) ⟨by decide, rfl⟩ rfl rfl rfl rfl (xe_mono (C_X11_isMark_256 s0 hG0 a (by first | exact x_rb b_a rfl rfl | exact ⟨by omega, by omega⟩)) ?_)
  rintro s4 v ⟨h_s4, z3, rfl, hz_z3⟩
  rw [h_s4]
  rcases hz_z3 with ⟨c_z3, e_z3⟩ | ⟨c_z3, e_z3⟩
  · rw [e_z3]
    show xe none 146 5 [(0, .ref 256), (1, vi a)] [vi 1] s0 0 0 _
    refine x_if_ne k146_5 (t := 12) rfl ⟨by decide, by decide⟩ (fun c5 => ?_) (fun c5 => by exfalso; omega)
    refine x_A k146_12 (fun _ => rfl) ?_
    refine x_A k146_13 (fun _ => rfl) ?_
    refine x_A k146_14 (fun _ => rfl) ?_
    refine x_getI k146_15 (f := 0) rfl (q := 256) (n := 62) (kd := 15) ⟨by decide, rfl⟩ (by decide) rfl ?_
    refine x_rw (e_z2.symm) ?_
    refine x_callV k146_18 (y := 142) (n := 2) (w0 := 0) (w1 := 2) (as := [vi a, vi z2]) (rest := []) (by decide +kernel) (q := 256) (nq := 62) (kq := 15) ⟨by decide, rfl⟩ rfl rfl rfl rfl (xe_mono (C_X11_isThere_256 s0 hG0 a (by first | exact x_rb b_a rfl rfl | exact ⟨by omega, by omega⟩) z2 (by first | exact x_rbe e_z2 g_z2 rfl rfl | exact x_rb g_z2 rfl rfl | exact ⟨by omega, by omega⟩)) ?_)
    rintro s7 v ⟨h_s7, z6, rfl, hz_z6⟩
    rw [h_s7]
    rcases hz_z6 with ⟨c_z6, e_z6, m_z6⟩ | ⟨e_z6, m_z6⟩
    · rw [e_z6]
      show xe none 146 21 [(0, .ref 256), (1, vi a)] [vi 1] s0 0 0 _
      refine x_if_ne k146_21 (t := 28) rfl ⟨by decide, by decide⟩ (fun c8 => ?_) (fun c8 => by exfalso; omega)
      refine x_A k146_28 (fun _ => rfl) ?_
      refine x_getI k146_29 (f := 1) rfl (q := 256) (n := 62) (kd := 15) ⟨by decide, rfl⟩ (by decide) rfl ?_
      refine x_rw (e_z1.symm) ?_
      refine x_bipush k146_32 (by decide +kernel) ?_
      refine x_ic_ne k146_34 (t := 41) rfl (by first | exact x_rbe e_z1 g_z1 rfl rfl | exact x_rb g_z1 rfl rfl | exact ⟨by omega, by omega⟩) ⟨by decide, by decide⟩ (fun c9 => ?_) (fun c9 => ?_)
      · skip
        refine x_A k146_41 (fun _ => rfl) ?_
        refine x_A k146_42 (fun _ => rfl) ?_
        refine x_callV k146_43 (y := 139) (n := 1) (w0 := 0) (w1 := 1) (as := [vi a]) (rest := []) (by decide +kernel) (q := 256) (nq := 62) (kq := 15) ⟨by decide, rfl⟩ rfl rfl rfl rfl (xe_mono (V_X11_tell_256 s0 hG0 a (by first | exact x_rb b_a rfl rfl | exact ⟨by omega, by omega⟩) ⟨by omega, by omega⟩ (by omega) i0_J) ?_)
        rintro s11 v ⟨hG_s11, t_s11, rfl, xp_z10, J_s11⟩
        have f_s11 : FL [4098, 4160, 4224, 4288, 4352] s0 s11 := f0.tr t_s11 (by decide)
        have q12 : s11 256 0 = z2 := (t_s11 256 0 (show 4097 ∉ [4098, 4160, 4224, 4288, 4352] from by decide)).trans e_z2.symm
        obtain ⟨z13, e_z13⟩ : ∃ z, z = s11 256 1 := ⟨_, rfl⟩
        have g_z13 : (1 : Int) ≤ s11 256 1 ∧ s11 256 1 ≤ 40 := hG_s11 256 1
        show xe none 146 46 [(0, .ref 256), (1, vi a)] [] s11 0 0 _
        refine x_A k146_46 (fun _ => rfl) ?_
        refine x_getI k146_47 (f := 1) rfl (q := 256) (n := 62) (kd := 15) ⟨by decide, rfl⟩ (by decide) rfl ?_
        refine x_rw (e_z13.symm) ?_
        refine x_A k146_50 (fun _ => rfl) ?_
        refine x_isub k146_51 ?_
        refine x_top (fun z14 e_z14 => ?_)
        exact x_iret k146_52 rfl ⟨hG_s11, f_s11, z14, rfl, (by first | exact x_rbe e_z14 g_z14 rfl rfl | exact x_rb g_z14 rfl rfl | exact ⟨by omega, by omega⟩), ⟨(by unfold MkR; exact Or.inr (Or.inr (Or.inr ⟨by omega, by omega, by omega, by omega, xp_z10.1, xp_z10.2.1, xp_z10.2.2.1⟩))), ⟨fun w => by exfalso; omega, fun _ j => by rw [xp_z10.2.2.2.1 j, show z14 = s0 256 1 by omega]⟩, fun w => by exfalso; omega, fun _ j => by rw [xp_z10.2.2.2.2 j, show z14 = s0 256 1 by omega]⟩, J_s11⟩
      · skip
        refine x_sipush k146_37 (by decide +kernel) ?_
        exact x_iret k146_40 rfl ⟨hG0, f0, (-1004), rfl, ⟨by decide, by decide⟩, ⟨(by unfold MkR; exact Or.inr (Or.inr (Or.inl ⟨by omega, by omega, by omega, rfl, rfl, rfl, rfl⟩))), ⟨fun _ => rfl, fun w => absurd w (by decide)⟩, fun _ => rfl, fun w => absurd w (by decide)⟩, i0_J⟩
    · rw [e_z6]
      show xe none 146 21 [(0, .ref 256), (1, vi a)] [vi 0] s0 0 0 _
      refine x_if_ne k146_21 (t := 28) rfl ⟨by decide, by decide⟩ (fun c15 => by exfalso; omega) (fun c15 => ?_)
      refine x_sipush k146_24 (by decide +kernel) ?_
      exact x_iret k146_27 rfl ⟨hG0, f0, (-1003), rfl, ⟨by decide, by decide⟩, ⟨(by unfold MkR; exact Or.inr (Or.inl ⟨by omega, by omega, rfl, rfl, rfl, rfl⟩)), ⟨fun _ => rfl, fun w => absurd w (by decide)⟩, fun _ => rfl, fun w => absurd w (by decide)⟩, i0_J⟩
  · rw [e_z3]
    show xe none 146 5 [(0, .ref 256), (1, vi a)] [vi 0] s0 0 0 _
    refine x_if_ne k146_5 (t := 12) rfl ⟨by decide, by decide⟩ (fun c16 => by exfalso; omega) (fun c16 => ?_)
    refine x_sipush k146_8 (by decide +kernel) ?_
    exact x_iret k146_11 rfl ⟨hG0, f0, (-1001), rfl, ⟨by decide, by decide⟩, ⟨(by unfold MkR; exact Or.inl ⟨by omega, rfl, rfl, rfl, rfl⟩), ⟨fun _ => rfl, fun w => absurd w (by decide)⟩, fun _ => rfl, fun w => absurd w (by decide)⟩, i0_J⟩
set_option maxHeartbeats 8000000 in
theorem V_X10_end_0 (s0 : xS) (hG0 : GI s0) (a : Int) (b_a : (-2147483648) ≤ a ∧ a ≤ 2147483647) (b : Int) (b_b : (-2147483648) ≤ b ∧ b ≤ 2147483647) (p_1_4 : 1 ≤ s0 1 4 ∧ s0 1 4 ≤ 40) (p_0_10 : 0 ≤ s0 0 10 ∧ s0 0 10 ≤ 9) (i0_VCj : VCj s0) (i0_VCl : VCl s0) : xe none 94 0 (lv_args 0 [.ref 0, vi a, vi b]) [] s0 0 0 (fun s' v => GI s' ∧ FL [192, 256, 3276, 3277] s0 s' ∧ ∃ z, v = some (vi z) ∧ ((-1004) ≤ z ∧ z ≤ 39) ∧ (EnV s0 s' a b) ∧ VCj s' ∧ VCl s') := by
  have f0 : FL [192, 256, 3276, 3277] s0 s0 := FL.rf
  show xe none 94 0 [(0, .ref 0), (1, vi a), (2, vi b)] [] s0 0 0 _
  obtain ⟨z1, e_z1⟩ : ∃ z, z = s0 1 4 := ⟨_, rfl⟩
  have g_z1 : (1 : Int) ≤ s0 1 4 ∧ s0 1 4 ≤ 40 := hG0 1 4
  obtain ⟨z2, e_z2⟩ : ∃ z, z = s0 0 10 := ⟨_, rfl⟩
  have g_z2 : (0 : Int) ≤ s0 0 10 ∧ s0 0 10 ≤ 9 := hG0 0 10
  refine x_A k94_0 (fun _ => rfl) ?_
  refine x_getR k94_1 (f := 0) rfl (q := 0) (n := 12) (kd := 3) ⟨by decide, rfl⟩ (q2 := 1) (by decide) rfl ?_
  refine x_A k94_4 (fun _ => rfl) ?_
  refine x_callV k94_5 (y := 59) (n := 1) (w0 := 0) (w1 := 1) (as := [vi a]) (rest := []) (by decide +kernel) (q := 1) (nq := 5) (kq := 4) ⟨by decide, rfl⟩ rfl rfl rfl rfl (xe_mono (C_X7_has_1 s0 hG0 a (by first | exact x_rb b_a rfl rfl | exact ⟨by omega, by omega⟩)) ?_)
  rintro s4 v ⟨h_s4, z3, rfl, hz_z3⟩
  rw [h_s4]
  rcases hz_z3 with ⟨c_z3, e_z3⟩ | ⟨c_z3, e_z3⟩
  · rw [e_z3]
    show xe none 94 8 [(0, .ref 0), (1, vi a), (2, vi b)] [vi 1] s0 0 0 _
    refine x_if_eq k94_8 (t := 27) rfl ⟨by decide, by decide⟩ (fun c5 => by exfalso; omega) (fun c5 => ?_)
    refine x_A k94_11 (fun _ => rfl) ?_
    refine x_A k94_12 (fun _ => rfl) ?_
    refine x_ic_eq k94_13 (t := 31) rfl (by first | exact x_rb b_b rfl rfl | exact ⟨by omega, by omega⟩) ⟨by decide, by decide⟩ (fun c6 => ?_) (fun c6 => ?_)
    · skip
      refine x_A k94_31 (fun _ => rfl) ?_
      refine x_if_eq k94_32 (t := 55) rfl (by first | exact x_rb b_a rfl rfl | exact ⟨by omega, by omega⟩) (fun c7 => ?_) (fun c7 => ?_)
      · skip
        refine x_sipush k94_55 (by decide +kernel) ?_
        exact x_iret k94_58 rfl ⟨hG0, f0, (-1003), rfl, ⟨by decide, by decide⟩, (by unfold EnV; exact Or.inr (Or.inl ⟨by omega, by omega, rfl, rfl⟩)), i0_VCj, i0_VCl⟩
      · skip
        refine x_A k94_35 (fun _ => rfl) ?_
        refine x_A k94_36 (fun _ => rfl) ?_
        refine x_ic_eq k94_37 (t := 55) rfl (by first | exact x_rb b_a rfl rfl | exact ⟨by omega, by omega⟩) (by first | exact x_rb b_b rfl rfl | exact ⟨by omega, by omega⟩) (fun c8 => by exfalso; omega) (fun c8 => ?_)
        refine x_A k94_40 (fun _ => rfl) ?_
        refine x_getR k94_41 (f := 0) rfl (q := 0) (n := 12) (kd := 3) ⟨by decide, rfl⟩ (q2 := 1) (by decide) rfl ?_
        refine x_A k94_44 (fun _ => rfl) ?_
        refine x_A k94_45 (fun _ => rfl) ?_
        refine x_getI k94_46 (f := 10) rfl (q := 0) (n := 12) (kd := 3) ⟨by decide, rfl⟩ (by decide) rfl ?_
        refine x_rw (e_z2.symm) ?_
        refine x_callV k94_49 (y := 64) (n := 2) (w0 := 0) (w1 := 2) (as := [vi a, vi z2]) (rest := []) (by decide +kernel) (q := 1) (nq := 5) (kq := 4) ⟨by decide, rfl⟩ rfl rfl rfl rfl (xe_mono (E_X7_isThere_1 s0 hG0 a (by first | exact x_rb b_a rfl rfl | exact ⟨by omega, by omega⟩) z2 (by first | exact x_rbe e_z2 g_z2 rfl rfl | exact x_rb g_z2 rfl rfl | exact ⟨by omega, by omega⟩)) ?_)
        rintro s10 v ⟨h_s10, z9, rfl, hz_z9⟩
        rw [h_s10]
        rcases hz_z9 with ⟨c_z9, e_z9, m_z9⟩ | ⟨e_z9, m_z9⟩
        · rw [e_z9]
          show xe none 94 52 [(0, .ref 0), (1, vi a), (2, vi b)] [vi 1] s0 0 0 _
          refine x_if_ne k94_52 (t := 59) rfl ⟨by decide, by decide⟩ (fun c11 => ?_) (fun c11 => by exfalso; omega)
          refine x_A k94_59 (fun _ => rfl) ?_
          refine x_A k94_60 (fun _ => rfl) ?_
          refine x_ic_eq k94_61 (t := 83) rfl (by first | exact x_rb b_b rfl rfl | exact ⟨by omega, by omega⟩) ⟨by decide, by decide⟩ (fun c12 => ?_) (fun c12 => by exfalso; omega)
          refine x_A k94_83 (fun _ => rfl) ?_
          refine x_getR k94_84 (f := 9) rfl (q := 0) (n := 12) (kd := 3) ⟨by decide, rfl⟩ (q2 := 243) (by decide) rfl ?_
          refine x_callV k94_87 (y := 73) (n := 0) (w0 := 0) (w1 := 0) (as := []) (rest := []) (by decide +kernel) (q := 243) (nq := 13) (kq := 13) ⟨by decide, rfl⟩ rfl rfl rfl rfl (xe_mono (E_X8_forget_243 s0 hG0) ?_)
          rintro s14 v ⟨hG_s14, t_s14, rfl, xp_z13⟩
          have f_s14 : FL [192, 256, 3276, 3277] s0 s14 := f0.tr t_s14 (by decide)
          have q15 : s14 1 4 = z1 := (t_s14 1 4 (show 69 ∉ [3276, 3277] from by decide)).trans e_z1.symm
          have q16 : s14 0 10 = z2 := (t_s14 0 10 (show 11 ∉ [3276, 3277] from by decide)).trans e_z2.symm
          obtain ⟨z17, e_z17⟩ : ∃ z, z = s14 243 11 := ⟨_, rfl⟩
          have g_z17 : (0 : Int) ≤ s14 243 11 ∧ s14 243 11 ≤ 1 := hG_s14 243 11
          obtain ⟨z18, e_z18⟩ : ∃ z, z = s14 243 12 := ⟨_, rfl⟩
          have g_z18 : (-1) ≤ s14 243 12 ∧ s14 243 12 ≤ 9 := hG_s14 243 12
          show xe none 94 90 [(0, .ref 0), (1, vi a), (2, vi b)] [] s14 0 0 _
          have F3 : s14 3 = s0 3 := funext fun i => t_s14 3 i (show 192 ∉ _ from by decide)
          have F4 : s14 4 = s0 4 := funext fun i => t_s14 4 i (show 256 ∉ _ from by decide)
          refine x_A k94_90 (fun _ => rfl) ?_
          refine x_getR k94_91 (f := 0) rfl (q := 0) (n := 12) (kd := 3) ⟨by decide, rfl⟩ (q2 := 1) (by decide) rfl ?_
          refine x_getR k94_94 (f := 1) rfl (q := 1) (n := 5) (kd := 4) ⟨by decide, rfl⟩ (q2 := 3) (by decide) rfl ?_
          refine x_A k94_97 (fun _ => rfl) ?_
          refine x_A k94_98 (fun _ => rfl) ?_
          refine x_getI k94_99 (f := 10) rfl (q := 0) (n := 12) (kd := 3) ⟨by decide, rfl⟩ (by decide) rfl ?_
          refine x_rw (q16) ?_
          refine x_iast k94_102 (q := 3) (n := 40) ⟨by decide, rfl⟩ (by decide) (by first | exact x_rbl b_a rfl rfl | exact ⟨by omega, by omega⟩) ?_
          refine x_nh (fun s19 e_s19 => ?_)
          have hG_s19 : GI s19 := by rw [e_s19]; exact hG_s14.up (show (-1) ≤ z2 ∧ z2 ≤ 9 from (by first | exact x_rbe e_z2 g_z2 rfl rfl | exact x_rb g_z2 rfl rfl | exact ⟨by omega, by omega⟩))
          have f_s19 : FL [192, 256, 3276, 3277] s0 s19 := by rw [e_s19]; exact f_s14.up (show 192 ∈ [192, 256, 3276, 3277] from by decide)
          have q20 : s19 1 4 = z1 := by rw [e_s19, x_up_q (by decide)]; exact q15
          have q21 : s19 0 10 = z2 := by rw [e_s19, x_up_q (by decide)]; exact q16
          have q22 : s19 243 11 = z17 := by rw [e_s19, x_up_q (by decide)]; exact e_z17.symm
          have q23 : s19 243 12 = z18 := by rw [e_s19, x_up_q (by decide)]; exact e_z18.symm
          have q24 : s19 3 a.toNat = z2 := by rw [e_s19]; exact x_up_same
          refine x_A k94_103 (fun _ => rfl) ?_
          refine x_getR k94_104 (f := 0) rfl (q := 0) (n := 12) (kd := 3) ⟨by decide, rfl⟩ (q2 := 1) (by decide) rfl ?_
          refine x_getR k94_107 (f := 2) rfl (q := 1) (n := 5) (kd := 4) ⟨by decide, rfl⟩ (q2 := 4) (by decide) rfl ?_
          refine x_A k94_110 (fun _ => rfl) ?_
          refine x_A k94_111 (fun _ => rfl) ?_
          refine x_iast k94_112 (q := 4) (n := 40) ⟨by decide, rfl⟩ (by decide) (by first | exact x_rbl b_a rfl rfl | exact ⟨by omega, by omega⟩) ?_
          refine x_nh (fun s25 e_s25 => ?_)
          have hG_s25 : GI s25 := by rw [e_s25]; exact hG_s19.up (show (-1) ≤ b ∧ b ≤ 39 from (by first | exact x_rb b_b rfl rfl | exact ⟨by omega, by omega⟩))
          have f_s25 : FL [192, 256, 3276, 3277] s0 s25 := by rw [e_s25]; exact f_s19.up (show 256 ∈ [192, 256, 3276, 3277] from by decide)
          have q26 : s25 1 4 = z1 := by rw [e_s25, x_up_q (by decide)]; exact q20
          have q27 : s25 0 10 = z2 := by rw [e_s25, x_up_q (by decide)]; exact q21
          have q28 : s25 243 11 = z17 := by rw [e_s25, x_up_q (by decide)]; exact q22
          have q29 : s25 243 12 = z18 := by rw [e_s25, x_up_q (by decide)]; exact q23
          have q30 : s25 3 a.toNat = z2 := by rw [e_s25, x_up_q (by first | decide | omega)]; exact q24
          have q31 : s25 4 a.toNat = b := by rw [e_s25]; exact x_up_same
          refine x_A k94_113 (fun _ => rfl) ?_
          refine x_getR k94_114 (f := 0) rfl (q := 0) (n := 12) (kd := 3) ⟨by decide, rfl⟩ (q2 := 1) (by decide) rfl ?_
          refine x_A k94_117 (fun _ => rfl) ?_
          refine x_A k94_118 (fun _ => rfl) ?_
          refine x_getI k94_119 (f := 10) rfl (q := 0) (n := 12) (kd := 3) ⟨by decide, rfl⟩ (by decide) rfl ?_
          refine x_rw (q27) ?_
          refine x_callV k94_122 (y := 67) (n := 2) (w0 := 0) (w1 := 2) (as := [vi a, vi z2]) (rest := []) (by decide +kernel) (q := 1) (nq := 5) (kq := 4) ⟨by decide, rfl⟩ rfl rfl rfl rfl (xe_mono (E_X7_countBelow_1 s25 hG_s25 a (by first | exact x_rb b_a rfl rfl | exact ⟨by omega, by omega⟩) z2 (by first | exact x_rbe e_z2 g_z2 rfl rfl | exact x_rb g_z2 rfl rfl | exact ⟨by omega, by omega⟩)) ?_)
          rintro s33 v ⟨-, t_s33, z32, rfl, g_z32, xp_z32⟩
          rw [t_s33.nil]
          try rw [t_s33.nil] at xp_z32
          show xe none 94 125 [(0, .ref 0), (1, vi a), (2, vi b)] [vi z32] s25 0 0 _
          refine x_A k94_125 (fun _ => rfl) ?_
          refine x_isub k94_126 ?_
          refine x_top (fun z34 e_z34 => ?_)
          have VCj_r : VCj s25 := (VCj.no (show s25 243 11 = 0 by omega))
          have VCl_r : VCl s25 := (VCl.no (show s25 243 12 = -1 by omega))
          exact x_iret k94_127 rfl ⟨hG_s25, f_s25, z34, rfl, (by first | exact x_rbe e_z34 g_z34 rfl rfl | exact x_rb g_z34 rfl rfl | exact ⟨by omega, by omega⟩), (by unfold EnV; exact Or.inr (Or.inr ⟨by omega, by omega, fun j => by rw [e_s25, x_up_q (by decide), e_s19, x_up_at, show z2 = s0 0 10 by omega, F3], fun j => by rw [e_s25, x_up_at, e_s19, x_up_q (by decide), F4]⟩)), VCj_r, VCl_r⟩
        · rw [e_z9]
          show xe none 94 52 [(0, .ref 0), (1, vi a), (2, vi b)] [vi 0] s0 0 0 _
          refine x_if_ne k94_52 (t := 59) rfl ⟨by decide, by decide⟩ (fun c35 => by exfalso; omega) (fun c35 => ?_)
          refine x_sipush k94_55 (by decide +kernel) ?_
          exact x_iret k94_58 rfl ⟨hG0, f0, (-1003), rfl, ⟨by decide, by decide⟩, (by unfold EnV; exact Or.inr (Or.inl ⟨by omega, by omega, rfl, rfl⟩)), i0_VCj, i0_VCl⟩
    · skip
      refine x_A k94_16 (fun _ => rfl) ?_
      refine x_getR k94_17 (f := 0) rfl (q := 0) (n := 12) (kd := 3) ⟨by decide, rfl⟩ (q2 := 1) (by decide) rfl ?_
      refine x_A k94_20 (fun _ => rfl) ?_
      refine x_callV k94_21 (y := 59) (n := 1) (w0 := 0) (w1 := 1) (as := [vi b]) (rest := []) (by decide +kernel) (q := 1) (nq := 5) (kq := 4) ⟨by decide, rfl⟩ rfl rfl rfl rfl (xe_mono (C_X7_has_1 s0 hG0 b (by first | exact x_rb b_b rfl rfl | exact ⟨by omega, by omega⟩)) ?_)
      rintro s37 v ⟨h_s37, z36, rfl, hz_z36⟩
      rw [h_s37]
      rcases hz_z36 with ⟨c_z36, e_z36⟩ | ⟨c_z36, e_z36⟩
      · rw [e_z36]
        show xe none 94 24 [(0, .ref 0), (1, vi a), (2, vi b)] [vi 1] s0 0 0 _
        refine x_if_ne k94_24 (t := 31) rfl ⟨by decide, by decide⟩ (fun c38 => ?_) (fun c38 => by exfalso; omega)
        refine x_A k94_31 (fun _ => rfl) ?_
        refine x_if_eq k94_32 (t := 55) rfl (by first | exact x_rb b_a rfl rfl | exact ⟨by omega, by omega⟩) (fun c39 => ?_) (fun c39 => ?_)
        · skip
          refine x_sipush k94_55 (by decide +kernel) ?_
          exact x_iret k94_58 rfl ⟨hG0, f0, (-1003), rfl, ⟨by decide, by decide⟩, (by unfold EnV; exact Or.inr (Or.inl ⟨by omega, by omega, rfl, rfl⟩)), i0_VCj, i0_VCl⟩
        · skip
          refine x_A k94_35 (fun _ => rfl) ?_
          refine x_A k94_36 (fun _ => rfl) ?_
          refine x_ic_eq k94_37 (t := 55) rfl (by first | exact x_rb b_a rfl rfl | exact ⟨by omega, by omega⟩) (by first | exact x_rb b_b rfl rfl | exact ⟨by omega, by omega⟩) (fun c40 => ?_) (fun c40 => ?_)
          · skip
            refine x_sipush k94_55 (by decide +kernel) ?_
            exact x_iret k94_58 rfl ⟨hG0, f0, (-1003), rfl, ⟨by decide, by decide⟩, (by unfold EnV; exact Or.inr (Or.inl ⟨by omega, by omega, rfl, rfl⟩)), i0_VCj, i0_VCl⟩
          · skip
            refine x_A k94_40 (fun _ => rfl) ?_
            refine x_getR k94_41 (f := 0) rfl (q := 0) (n := 12) (kd := 3) ⟨by decide, rfl⟩ (q2 := 1) (by decide) rfl ?_
            refine x_A k94_44 (fun _ => rfl) ?_
            refine x_A k94_45 (fun _ => rfl) ?_
            refine x_getI k94_46 (f := 10) rfl (q := 0) (n := 12) (kd := 3) ⟨by decide, rfl⟩ (by decide) rfl ?_
            refine x_rw (e_z2.symm) ?_
            refine x_callV k94_49 (y := 64) (n := 2) (w0 := 0) (w1 := 2) (as := [vi a, vi z2]) (rest := []) (by decide +kernel) (q := 1) (nq := 5) (kq := 4) ⟨by decide, rfl⟩ rfl rfl rfl rfl (xe_mono (E_X7_isThere_1 s0 hG0 a (by first | exact x_rb b_a rfl rfl | exact ⟨by omega, by omega⟩) z2 (by first | exact x_rbe e_z2 g_z2 rfl rfl | exact x_rb g_z2 rfl rfl | exact ⟨by omega, by omega⟩)) ?_)
            rintro s42 v ⟨h_s42, z41, rfl, hz_z41⟩
            rw [h_s42]
            rcases hz_z41 with ⟨c_z41, e_z41, m_z41⟩ | ⟨e_z41, m_z41⟩
            · rw [e_z41]
              show xe none 94 52 [(0, .ref 0), (1, vi a), (2, vi b)] [vi 1] s0 0 0 _
              refine x_if_ne k94_52 (t := 59) rfl ⟨by decide, by decide⟩ (fun c43 => ?_) (fun c43 => by exfalso; omega)
              refine x_A k94_59 (fun _ => rfl) ?_
              refine x_A k94_60 (fun _ => rfl) ?_
              refine x_ic_eq k94_61 (t := 83) rfl (by first | exact x_rb b_b rfl rfl | exact ⟨by omega, by omega⟩) ⟨by decide, by decide⟩ (fun c44 => by exfalso; omega) (fun c44 => ?_)
              refine x_A k94_64 (fun _ => rfl) ?_
              refine x_getR k94_65 (f := 0) rfl (q := 0) (n := 12) (kd := 3) ⟨by decide, rfl⟩ (q2 := 1) (by decide) rfl ?_
              refine x_A k94_68 (fun _ => rfl) ?_
              refine x_A k94_69 (fun _ => rfl) ?_
              refine x_getI k94_70 (f := 10) rfl (q := 0) (n := 12) (kd := 3) ⟨by decide, rfl⟩ (by decide) rfl ?_
              refine x_rw (e_z2.symm) ?_
              refine x_callV k94_73 (y := 64) (n := 2) (w0 := 0) (w1 := 2) (as := [vi b, vi z2]) (rest := []) (by decide +kernel) (q := 1) (nq := 5) (kq := 4) ⟨by decide, rfl⟩ rfl rfl rfl rfl (xe_mono (E_X7_isThere_1 s0 hG0 b (by first | exact x_rb b_b rfl rfl | exact ⟨by omega, by omega⟩) z2 (by first | exact x_rbe e_z2 g_z2 rfl rfl | exact x_rb g_z2 rfl rfl | exact ⟨by omega, by omega⟩)) ?_)
              rintro s46 v ⟨h_s46, z45, rfl, hz_z45⟩
              rw [h_s46]
              rcases hz_z45 with ⟨c_z45, e_z45, m_z45⟩ | ⟨e_z45, m_z45⟩
              · rw [e_z45]
                show xe none 94 76 [(0, .ref 0), (1, vi a), (2, vi b)] [vi 1] s0 0 0 _
                refine x_if_ne k94_76 (t := 83) rfl ⟨by decide, by decide⟩ (fun c47 => ?_) (fun c47 => by exfalso; omega)
                refine x_A k94_83 (fun _ => rfl) ?_
                refine x_getR k94_84 (f := 9) rfl (q := 0) (n := 12) (kd := 3) ⟨by decide, rfl⟩ (q2 := 243) (by decide) rfl ?_
                refine x_callV k94_87 (y := 73) (n := 0) (w0 := 0) (w1 := 0) (as := []) (rest := []) (by decide +kernel) (q := 243) (nq := 13) (kq := 13) ⟨by decide, rfl⟩ rfl rfl rfl rfl (xe_mono (E_X8_forget_243 s0 hG0) ?_)
                rintro s49 v ⟨hG_s49, t_s49, rfl, xp_z48⟩
                have f_s49 : FL [192, 256, 3276, 3277] s0 s49 := f0.tr t_s49 (by decide)
                have q50 : s49 1 4 = z1 := (t_s49 1 4 (show 69 ∉ [3276, 3277] from by decide)).trans e_z1.symm
                have q51 : s49 0 10 = z2 := (t_s49 0 10 (show 11 ∉ [3276, 3277] from by decide)).trans e_z2.symm
                obtain ⟨z52, e_z52⟩ : ∃ z, z = s49 243 11 := ⟨_, rfl⟩
                have g_z52 : (0 : Int) ≤ s49 243 11 ∧ s49 243 11 ≤ 1 := hG_s49 243 11
                obtain ⟨z53, e_z53⟩ : ∃ z, z = s49 243 12 := ⟨_, rfl⟩
                have g_z53 : (-1) ≤ s49 243 12 ∧ s49 243 12 ≤ 9 := hG_s49 243 12
                show xe none 94 90 [(0, .ref 0), (1, vi a), (2, vi b)] [] s49 0 0 _
                have F3 : s49 3 = s0 3 := funext fun i => t_s49 3 i (show 192 ∉ _ from by decide)
                have F4 : s49 4 = s0 4 := funext fun i => t_s49 4 i (show 256 ∉ _ from by decide)
                refine x_A k94_90 (fun _ => rfl) ?_
                refine x_getR k94_91 (f := 0) rfl (q := 0) (n := 12) (kd := 3) ⟨by decide, rfl⟩ (q2 := 1) (by decide) rfl ?_
                refine x_getR k94_94 (f := 1) rfl (q := 1) (n := 5) (kd := 4) ⟨by decide, rfl⟩ (q2 := 3) (by decide) rfl ?_
                refine x_A k94_97 (fun _ => rfl) ?_
                refine x_A k94_98 (fun _ => rfl) ?_
                refine x_getI k94_99 (f := 10) rfl (q := 0) (n := 12) (kd := 3) ⟨by decide, rfl⟩ (by decide) rfl ?_
                refine x_rw (q51) ?_
                refine x_iast k94_102 (q := 3) (n := 40) ⟨by decide, rfl⟩ (by decide) (by first | exact x_rbl b_a rfl rfl | exact ⟨by omega, by omega⟩) ?_
                refine x_nh (fun s54 e_s54 => ?_)
                have hG_s54 : GI s54 := by rw [e_s54]; exact hG_s49.up (show (-1) ≤ z2 ∧ z2 ≤ 9 from (by first | exact x_rbe e_z2 g_z2 rfl rfl | exact x_rb g_z2 rfl rfl | exact ⟨by omega, by omega⟩))
                have f_s54 : FL [192, 256, 3276, 3277] s0 s54 := by rw [e_s54]; exact f_s49.up (show 192 ∈ [192, 256, 3276, 3277] from by decide)
                have q55 : s54 1 4 = z1 := by rw [e_s54, x_up_q (by decide)]; exact q50
                have q56 : s54 0 10 = z2 := by rw [e_s54, x_up_q (by decide)]; exact q51
                have q57 : s54 243 11 = z52 := by rw [e_s54, x_up_q (by decide)]; exact e_z52.symm
                have q58 : s54 243 12 = z53 := by rw [e_s54, x_up_q (by decide)]; exact e_z53.symm
                have q59 : s54 3 a.toNat = z2 := by rw [e_s54]; exact x_up_same
                refine x_A k94_103 (fun _ => rfl) ?_
                refine x_getR k94_104 (f := 0) rfl (q := 0) (n := 12) (kd := 3) ⟨by decide, rfl⟩ (q2 := 1) (by decide) rfl ?_
                refine x_getR k94_107 (f := 2) rfl (q := 1) (n := 5) (kd := 4) ⟨by decide, rfl⟩ (q2 := 4) (by decide) rfl ?_
                refine x_A k94_110 (fun _ => rfl) ?_
                refine x_A k94_111 (fun _ => rfl) ?_
                refine x_iast k94_112 (q := 4) (n := 40) ⟨by decide, rfl⟩ (by decide) (by first | exact x_rbl b_a rfl rfl | exact ⟨by omega, by omega⟩) ?_
                refine x_nh (fun s60 e_s60 => ?_)
                have hG_s60 : GI s60 := by rw [e_s60]; exact hG_s54.up (show (-1) ≤ b ∧ b ≤ 39 from (by first | exact x_rb b_b rfl rfl | exact ⟨by omega, by omega⟩))
                have f_s60 : FL [192, 256, 3276, 3277] s0 s60 := by rw [e_s60]; exact f_s54.up (show 256 ∈ [192, 256, 3276, 3277] from by decide)
                have q61 : s60 1 4 = z1 := by rw [e_s60, x_up_q (by decide)]; exact q55
                have q62 : s60 0 10 = z2 := by rw [e_s60, x_up_q (by decide)]; exact q56
                have q63 : s60 243 11 = z52 := by rw [e_s60, x_up_q (by decide)]; exact q57
                have q64 : s60 243 12 = z53 := by rw [e_s60, x_up_q (by decide)]; exact q58
                have q65 : s60 3 a.toNat = z2 := by rw [e_s60, x_up_q (by first | decide | omega)]; exact q59
                have q66 : s60 4 a.toNat = b := by rw [e_s60]; exact x_up_same
                refine x_A k94_113 (fun _ => rfl) ?_
                refine x_getR k94_114 (f := 0) rfl (q := 0) (n := 12) (kd := 3) ⟨by decide, rfl⟩ (q2 := 1) (by decide) rfl ?_
                refine x_A k94_117 (fun _ => rfl) ?_
                refine x_A k94_118 (fun _ => rfl) ?_
                refine x_getI k94_119 (f := 10) rfl (q := 0) (n := 12) (kd := 3) ⟨by decide, rfl⟩ (by decide) rfl ?_
                refine x_rw (q62) ?_
                refine x_callV k94_122 (y := 67) (n := 2) (w0 := 0) (w1 := 2) (as := [vi a, vi z2]) (rest := []) (by decide +kernel) (q := 1) (nq := 5) (kq := 4) ⟨by decide, rfl⟩ rfl rfl rfl rfl (xe_mono (E_X7_countBelow_1 s60 hG_s60 a (by first | exact x_rb b_a rfl rfl | exact ⟨by omega, by omega⟩) z2 (by first | exact x_rbe e_z2 g_z2 rfl rfl | exact x_rb g_z2 rfl rfl | exact ⟨by omega, by omega⟩)) ?_)
                rintro s68 v ⟨-, t_s68, z67, rfl, g_z67, xp_z67⟩
                rw [t_s68.nil]
                try rw [t_s68.nil] at xp_z67
                show xe none 94 125 [(0, .ref 0), (1, vi a), (2, vi b)] [vi z67] s60 0 0 _
                refine x_A k94_125 (fun _ => rfl) ?_
                refine x_isub k94_126 ?_
                refine x_top (fun z69 e_z69 => ?_)
                have VCj_r : VCj s60 := (VCj.no (show s60 243 11 = 0 by omega))
                have VCl_r : VCl s60 := (VCl.no (show s60 243 12 = -1 by omega))
                exact x_iret k94_127 rfl ⟨hG_s60, f_s60, z69, rfl, (by first | exact x_rbe e_z69 g_z69 rfl rfl | exact x_rb g_z69 rfl rfl | exact ⟨by omega, by omega⟩), (by unfold EnV; exact Or.inr (Or.inr ⟨by omega, by omega, fun j => by rw [e_s60, x_up_q (by decide), e_s54, x_up_at, show z2 = s0 0 10 by omega, F3], fun j => by rw [e_s60, x_up_at, e_s54, x_up_q (by decide), F4]⟩)), VCj_r, VCl_r⟩
              · rw [e_z45]
                show xe none 94 76 [(0, .ref 0), (1, vi a), (2, vi b)] [vi 0] s0 0 0 _
                refine x_if_ne k94_76 (t := 83) rfl ⟨by decide, by decide⟩ (fun c70 => by exfalso; omega) (fun c70 => ?_)
                refine x_sipush k94_79 (by decide +kernel) ?_
                exact x_iret k94_82 rfl ⟨hG0, f0, (-1003), rfl, ⟨by decide, by decide⟩, (by unfold EnV; exact Or.inr (Or.inl ⟨by omega, by omega, rfl, rfl⟩)), i0_VCj, i0_VCl⟩
            · rw [e_z41]
              show xe none 94 52 [(0, .ref 0), (1, vi a), (2, vi b)] [vi 0] s0 0 0 _
              refine x_if_ne k94_52 (t := 59) rfl ⟨by decide, by decide⟩ (fun c71 => by exfalso; omega) (fun c71 => ?_)
              refine x_sipush k94_55 (by decide +kernel) ?_
              exact x_iret k94_58 rfl ⟨hG0, f0, (-1003), rfl, ⟨by decide, by decide⟩, (by unfold EnV; exact Or.inr (Or.inl ⟨by omega, by omega, rfl, rfl⟩)), i0_VCj, i0_VCl⟩
      · rw [e_z36]
        show xe none 94 24 [(0, .ref 0), (1, vi a), (2, vi b)] [vi 0] s0 0 0 _
        refine x_if_ne k94_24 (t := 31) rfl ⟨by decide, by decide⟩ (fun c72 => by exfalso; omega) (fun c72 => ?_)
        refine x_sipush k94_27 (by decide +kernel) ?_
        exact x_iret k94_30 rfl ⟨hG0, f0, (-1001), rfl, ⟨by decide, by decide⟩, (by unfold EnV; exact Or.inl ⟨by omega, rfl, rfl⟩), i0_VCj, i0_VCl⟩
  · rw [e_z3]
    show xe none 94 8 [(0, .ref 0), (1, vi a), (2, vi b)] [vi 0] s0 0 0 _
    refine x_if_eq k94_8 (t := 27) rfl ⟨by decide, by decide⟩ (fun c73 => ?_) (fun c73 => by exfalso; omega)
    refine x_sipush k94_27 (by decide +kernel) ?_
    exact x_iret k94_30 rfl ⟨hG0, f0, (-1001), rfl, ⟨by decide, by decide⟩, (by unfold EnV; exact Or.inl ⟨by omega, rfl, rfl⟩), i0_VCj, i0_VCl⟩
