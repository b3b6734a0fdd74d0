set_option maxHeartbeats 8000000 in
theorem E_X3_add_46 (s0 : xS) (hG0 : GI s0) (a : Int) (b_a : 0 ≤ a ∧ a ≤ 999) (b : Int) (b_b : 0 ≤ b ∧ b ≤ 9) (d : Int) (b_d : (-2147483648) ≤ d ∧ d ≤ 2147483647) (p_46_3 : 0 ≤ s0 46 3 ∧ s0 46 3 ≤ 40) : xe none 30 0 (lv_args 0 [.ref 46, vi a, vi b, vi d]) [] s0 0 0 (fun s' v => GI s' ∧ FL [452, 512, 576, 640] s0 s' ∧ ∃ z, v = some (vi z) ∧ ((-1004) ≤ z ∧ z ≤ 39) ∧ ((s0 46 3 ≥ 40 ∧ z = -1004 ∧ s' 46 3 = s0 46 3) ∨ (s0 46 3 < 40 ∧ z = s0 46 3 ∧ s' 46 3 = s0 46 3 + 1))) := by
  have f0 : FL [452, 512, 576, 640] s0 s0 := FL.rf
  show xe none 30 0 [(0, .ref 46), (1, vi a), (2, vi b), (3, vi d)] [] s0 0 0 _
  obtain ⟨z1, e_z1⟩ : ∃ z, z = s0 46 3 := ⟨_, rfl⟩
  have g_z1 : (0 : Int) ≤ s0 46 3 ∧ s0 46 3 ≤ 40 := hG0 46 3
  refine x_A k30_0 (fun _ => rfl) ?_
  refine x_getI k30_1 (f := 3) rfl (q := 46) (n := 4) (kd := 5) ⟨by decide, rfl⟩ (by decide) rfl ?_
  rw [e_z1.symm]
  refine x_istore k30_4 (ls' := [(4, vi z1), (0, .ref 46), (1, vi a), (2, vi b), (3, vi d)]) (by decide) rfl ?_
  refine x_A k30_6 (fun _ => rfl) ?_
  refine x_bipush k30_8 (by decide +kernel) ?_
  refine x_ic_lt k30_10 (t := 17) rfl (by first | exact x_rbe e_z1 g_z1 rfl rfl | exact x_rb g_z1 rfl rfl | exact ⟨by omega, by omega⟩) ⟨by decide, by decide⟩ (fun c2 => ?_) (fun c2 => ?_)
  · skip
    refine x_A k30_17 (fun _ => rfl) ?_
    refine x_getR k30_18 (f := 0) rfl (q := 46) (n := 4) (kd := 5) ⟨by decide, rfl⟩ (q2 := 47) (by decide) rfl ?_
    refine x_A k30_21 (fun _ => rfl) ?_
    refine x_A k30_23 (fun _ => rfl) ?_
    refine x_iast k30_24 (q := 47) (n := 40) ⟨by decide, rfl⟩ (by decide) (by first | exact x_rbel e_z1 g_z1 rfl rfl | exact x_rbl g_z1 rfl rfl | exact ⟨by omega, by omega⟩) ?_
    refine x_nh (fun s3 e_s3 => ?_)
    have hG_s3 : GI s3 := by rw [e_s3]; exact hG0.up (show 0 ≤ a ∧ a ≤ 999 from (by first | exact x_rb b_a rfl rfl | exact ⟨by omega, by omega⟩))
    have f_s3 : FL [452, 512, 576, 640] s0 s3 := by rw [e_s3]; exact f0.up (show 512 ∈ [452, 512, 576, 640] from by decide +kernel)
    have q4 : s3 46 3 = z1 := by rw [e_s3, x_up_q (by decide)]; exact e_z1.symm
    have q5 : s3 47 z1.toNat = a := by rw [e_s3]; exact x_up_same
    refine x_A k30_25 (fun _ => rfl) ?_
    refine x_getR k30_26 (f := 1) rfl (q := 46) (n := 4) (kd := 5) ⟨by decide, rfl⟩ (q2 := 48) (by decide) rfl ?_
    refine x_A k30_29 (fun _ => rfl) ?_
    refine x_A k30_31 (fun _ => rfl) ?_
    refine x_iast k30_32 (q := 48) (n := 40) ⟨by decide, rfl⟩ (by decide) (by first | exact x_rbel e_z1 g_z1 rfl rfl | exact x_rbl g_z1 rfl rfl | exact ⟨by omega, by omega⟩) ?_
    refine x_nh (fun s6 e_s6 => ?_)
    have hG_s6 : GI s6 := by rw [e_s6]; exact hG_s3.up (show 0 ≤ b ∧ b ≤ 9 from (by first | exact x_rb b_b rfl rfl | exact ⟨by omega, by omega⟩))
    have f_s6 : FL [452, 512, 576, 640] s0 s6 := by rw [e_s6]; exact f_s3.up (show 576 ∈ [452, 512, 576, 640] from by decide +kernel)
    have q7 : s6 46 3 = z1 := by rw [e_s6, x_up_q (by decide)]; exact q4
    have q8 : s6 47 z1.toNat = a := by rw [e_s6, x_up_q (by first | decide | omega)]; exact q5
    have q9 : s6 48 z1.toNat = b := by rw [e_s6]; exact x_up_same
    refine x_A k30_33 (fun _ => rfl) ?_
    refine x_getR k30_34 (f := 2) rfl (q := 46) (n := 4) (kd := 5) ⟨by decide, rfl⟩ (q2 := 49) (by decide) rfl ?_
    refine x_A k30_37 (fun _ => rfl) ?_
    refine x_A k30_39 (fun _ => rfl) ?_
    refine x_A k30_40 (fun _ => rfl) ?_
    refine x_callV k30_41 (y := 29) (n := 1) (w0 := 2) (w1 := 1) (as := [vi d]) (rest := [vi z1, .ref 49]) (by decide +kernel) (q := 46) (nq := 4) (kq := 5) ⟨by decide, rfl⟩ rfl rfl rfl rfl (xe_mono (C_X3_has_46 s6 hG_s6 d (by first | exact x_rb b_d rfl rfl | exact ⟨by omega, by omega⟩)) ?_)
    rintro s11 v ⟨h_s11, z10, rfl, hz_z10⟩
    rw [h_s11]
    rcases hz_z10 with ⟨c_z10, e_z10⟩ | ⟨c_z10, e_z10⟩
    · rw [e_z10]
      show xe none 30 44 [(4, vi z1), (0, .ref 46), (1, vi a), (2, vi b), (3, vi d)] [vi 1, vi z1, .ref 49] s6 0 0 _
      refine x_if_eq k30_44 (t := 56) rfl ⟨by decide, by decide⟩ (fun c12 => by exfalso; omega) (fun c12 => ?_)
      refine x_A k30_47 (fun _ => rfl) ?_
      refine x_getR k30_48 (f := 2) rfl (q := 46) (n := 4) (kd := 5) ⟨by decide, rfl⟩ (q2 := 49) (by decide) rfl ?_
      refine x_A k30_51 (fun _ => rfl) ?_
      refine x_iald k30_52 (q := 49) (n := 40) ⟨by decide, rfl⟩ (by decide) (by first | exact x_rbl b_d rfl rfl | exact ⟨by omega, by omega⟩) ?_
      refine x_top (fun z13 e_z13 => ?_)
      have g_z13 : (0 : Int) ≤ s6 49 d.toNat ∧ s6 49 d.toNat ≤ 39 := hG_s6 49 d.toNat
      refine x_goto k30_53 (t := 58) rfl ?_
      refine x_iast k30_58 (q := 49) (n := 40) ⟨by decide, rfl⟩ (by decide) (by first | exact x_rbel e_z1 g_z1 rfl rfl | exact x_rbl g_z1 rfl rfl | exact ⟨by omega, by omega⟩) ?_
      refine x_nh (fun s14 e_s14 => ?_)
      have hG_s14 : GI s14 := by rw [e_s14]; exact hG_s6.up (show 0 ≤ z13 ∧ z13 ≤ 39 from (by first | exact x_rbe e_z13 g_z13 rfl rfl | exact x_rb g_z13 rfl rfl | exact ⟨by omega, by omega⟩))
      have f_s14 : FL [452, 512, 576, 640] s0 s14 := by rw [e_s14]; exact f_s6.up (show 640 ∈ [452, 512, 576, 640] from by decide +kernel)
      have q15 : s14 46 3 = z1 := by rw [e_s14, x_up_q (by decide)]; exact q7
      have q16 : s14 47 z1.toNat = a := by rw [e_s14, x_up_q (by first | decide | omega)]; exact q8
      have q17 : s14 48 z1.toNat = b := by rw [e_s14, x_up_q (by first | decide | omega)]; exact q9
      have q18 : s14 49 z1.toNat = z13 := by rw [e_s14]; exact x_up_same
      refine x_A k30_59 (fun _ => rfl) ?_
      refine x_A k30_60 (fun _ => rfl) ?_
      refine x_getI k30_61 (f := 3) rfl (q := 46) (n := 4) (kd := 5) ⟨by decide, rfl⟩ (by decide) rfl ?_
      rw [q15]
      refine x_A k30_64 (fun _ => rfl) ?_
      refine x_iadd k30_65 ?_
      refine x_top (fun z19 e_z19 => ?_)
      refine x_putI k30_66 (f := 3) rfl (q := 46) (n := 4) (kd := 5) ⟨by decide, rfl⟩ rfl rfl rfl ?_
      refine x_nh (fun s20 e_s20 => ?_)
      have hG_s20 : GI s20 := by rw [e_s20]; exact hG_s14.up (show 0 ≤ z19 ∧ z19 ≤ 40 from (by first | exact x_rbe e_z19 g_z19 rfl rfl | exact x_rb g_z19 rfl rfl | exact ⟨by omega, by omega⟩))
      have f_s20 : FL [452, 512, 576, 640] s0 s20 := by rw [e_s20]; exact f_s14.up (show 452 ∈ [452, 512, 576, 640] from by decide +kernel)
      have q21 : s20 46 3 = z19 := by rw [e_s20]; exact x_up_same
      have q22 : s20 47 z1.toNat = a := by rw [e_s20, x_up_q (by first | decide | omega)]; exact q16
      have q23 : s20 48 z1.toNat = b := by rw [e_s20, x_up_q (by first | decide | omega)]; exact q17
      have q24 : s20 49 z1.toNat = z13 := by rw [e_s20, x_up_q (by first | decide | omega)]; exact q18
      refine x_A k30_69 (fun _ => rfl) ?_
      exact x_iret k30_71 rfl ⟨hG_s20, f_s20, z1, rfl, (by first | exact x_rbe e_z1 g_z1 rfl rfl | exact x_rb g_z1 rfl rfl | exact ⟨by omega, by omega⟩), by omega⟩
    · rw [e_z10]
      show xe none 30 44 [(4, vi z1), (0, .ref 46), (1, vi a), (2, vi b), (3, vi d)] [vi 0, vi z1, .ref 49] s6 0 0 _
      refine x_if_eq k30_44 (t := 56) rfl ⟨by decide, by decide⟩ (fun c25 => ?_) (fun c25 => by exfalso; omega)
      refine x_A k30_56 (fun _ => rfl) ?_
      refine x_iast k30_58 (q := 49) (n := 40) ⟨by decide, rfl⟩ (by decide) (by first | exact x_rbel e_z1 g_z1 rfl rfl | exact x_rbl g_z1 rfl rfl | exact ⟨by omega, by omega⟩) ?_
      refine x_nh (fun s26 e_s26 => ?_)
      have hG_s26 : GI s26 := by rw [e_s26]; exact hG_s6.up (show 0 ≤ z1 ∧ z1 ≤ 39 from (by first | exact x_rbe e_z1 g_z1 rfl rfl | exact x_rb g_z1 rfl rfl | exact ⟨by omega, by omega⟩))
      have f_s26 : FL [452, 512, 576, 640] s0 s26 := by rw [e_s26]; exact f_s6.up (show 640 ∈ [452, 512, 576, 640] from by decide +kernel)
      have q27 : s26 46 3 = z1 := by rw [e_s26, x_up_q (by decide)]; exact q7
      have q28 : s26 47 z1.toNat = a := by rw [e_s26, x_up_q (by first | decide | omega)]; exact q8
      have q29 : s26 48 z1.toNat = b := by rw [e_s26, x_up_q (by first | decide | omega)]; exact q9
      have q30 : s26 49 z1.toNat = z1 := by rw [e_s26]; exact x_up_same
      refine x_A k30_59 (fun _ => rfl) ?_
      refine x_A k30_60 (fun _ => rfl) ?_
      refine x_getI k30_61 (f := 3) rfl (q := 46) (n := 4) (kd := 5) ⟨by decide, rfl⟩ (by decide) rfl ?_
      rw [q27]
      refine x_A k30_64 (fun _ => rfl) ?_
      refine x_iadd k30_65 ?_
      refine x_top (fun z31 e_z31 => ?_)
      refine x_putI k30_66 (f := 3) rfl (q := 46) (n := 4) (kd := 5) ⟨by decide, rfl⟩ rfl rfl rfl ?_
      refine x_nh (fun s32 e_s32 => ?_)
      have hG_s32 : GI s32 := by rw [e_s32]; exact hG_s26.up (show 0 ≤ z31 ∧ z31 ≤ 40 from (by first | exact x_rbe e_z31 g_z31 rfl rfl | exact x_rb g_z31 rfl rfl | exact ⟨by omega, by omega⟩))
      have f_s32 : FL [452, 512, 576, 640] s0 s32 := by rw [e_s32]; exact f_s26.up (show 452 ∈ [452, 512, 576, 640] from by decide +kernel)
      have q33 : s32 46 3 = z31 := by rw [e_s32]; exact x_up_same
      have q34 : s32 47 z1.toNat = a := by rw [e_s32, x_up_q (by first | decide | omega)]; exact q28
      have q35 : s32 48 z1.toNat = b := by rw [e_s32, x_up_q (by first | decide | omega)]; exact q29
      have q36 : s32 49 z1.toNat = z1 := by rw [e_s32, x_up_q (by first | decide | omega)]; exact q30
      refine x_A k30_69 (fun _ => rfl) ?_
      exact x_iret k30_71 rfl ⟨hG_s32, f_s32, z1, rfl, (by first | exact x_rbe e_z1 g_z1 rfl rfl | exact x_rb g_z1 rfl rfl | exact ⟨by omega, by omega⟩), by omega⟩
  · skip
    refine x_sipush k30_13 (by decide +kernel) ?_
    exact x_iret k30_16 rfl ⟨hG0, f0, (-1004), rfl, ⟨by decide, by decide⟩, by omega⟩
set_option maxHeartbeats 8000000 in
theorem E_X10_picture_0 (s0 : xS) (hG0 : GI s0) (a : Int) (b_a : (-2147483648) ≤ a ∧ a ≤ 2147483647) (b : Int) (b_b : (-2147483648) ≤ b ∧ b ≤ 2147483647) (d : Int) (b_d : (-2147483648) ≤ d ∧ d ≤ 2147483647) (p_46_3 : 0 ≤ s0 46 3 ∧ s0 46 3 ≤ 40) : xe none 97 0 (lv_args 0 [.ref 0, vi a, vi b, vi d]) [] s0 0 0 (fun s' v => GI s' ∧ FL [452, 512, 576, 640] s0 s' ∧ ∃ z, v = some (vi z) ∧ ((-1004) ≤ z ∧ z ≤ 39) ∧ ((¬ (d = -1 ∨ (0 ≤ d ∧ d < s0 46 3)) ∧ z = -1001 ∧ s' 46 3 = s0 46 3) ∨ ((d = -1 ∨ (0 ≤ d ∧ d < s0 46 3)) ∧ ¬ (0 ≤ a ∧ a ≤ 999 ∧ 0 ≤ b ∧ b ≤ 9) ∧ z = -1002 ∧ s' 46 3 = s0 46 3) ∨ ((d = -1 ∨ (0 ≤ d ∧ d < s0 46 3)) ∧ (0 ≤ a ∧ a ≤ 999 ∧ 0 ≤ b ∧ b ≤ 9) ∧ s0 46 3 ≥ 40 ∧ z = -1004 ∧ s' 46 3 = s0 46 3) ∨ ((d = -1 ∨ (0 ≤ d ∧ d < s0 46 3)) ∧ (0 ≤ a ∧ a ≤ 999 ∧ 0 ≤ b ∧ b ≤ 9) ∧ s0 46 3 < 40 ∧ z = s0 46 3 ∧ s' 46 3 = s0 46 3 + 1))) := by
  have f0 : FL [452, 512, 576, 640] s0 s0 := FL.rf
  show xe none 97 0 [(0, .ref 0), (1, vi a), (2, vi b), (3, vi d)] [] s0 0 0 _
  obtain ⟨z1, e_z1⟩ : ∃ z, z = s0 46 3 := ⟨_, rfl⟩
  have g_z1 : (0 : Int) ≤ s0 46 3 ∧ s0 46 3 ≤ 40 := hG0 46 3
  refine x_A k97_0 (fun _ => rfl) ?_
  refine x_A k97_1 (fun _ => rfl) ?_
  refine x_ic_eq k97_2 (t := 20) rfl (by first | exact x_rb b_d rfl rfl | exact ⟨by omega, by omega⟩) ⟨by decide, by decide⟩ (fun c2 => ?_) (fun c2 => ?_)
  · skip
    refine x_A k97_20 (fun _ => rfl) ?_
    refine x_callS k97_21 (y := 122) (n := 1) (w0 := 0) (w1 := 1) (as := [vi a]) (rest := []) (by decide +kernel) rfl rfl rfl rfl (xe_mono (C_X10_isYear s0 hG0 a (by first | exact x_rb b_a rfl rfl | exact ⟨by omega, by omega⟩)) ?_)
    rintro s4 v ⟨h_s4, z3, rfl, hz_z3⟩
    rw [h_s4]
    rcases hz_z3 with ⟨c_z3, e_z3⟩ | ⟨c_z3, e_z3⟩
    · rw [e_z3]
      show xe none 97 24 [(0, .ref 0), (1, vi a), (2, vi b), (3, vi d)] [vi 1] s0 0 0 _
      refine x_if_eq k97_24 (t := 37) rfl ⟨by decide, by decide⟩ (fun c5 => by exfalso; omega) (fun c5 => ?_)
      refine x_A k97_27 (fun _ => rfl) ?_
      refine x_A k97_28 (fun _ => rfl) ?_
      refine x_bipush k97_29 (by decide +kernel) ?_
      refine x_callS k97_31 (y := 121) (n := 3) (w0 := 0) (w1 := 3) (as := [vi b, vi 0, vi 9]) (rest := []) (by decide +kernel) rfl rfl rfl rfl (xe_mono (C_X10_isWithin s0 hG0 b (by first | exact x_rb b_b rfl rfl | exact ⟨by omega, by omega⟩) 0 ⟨by decide, by decide⟩ 9 ⟨by decide, by decide⟩) ?_)
      rintro s7 v ⟨h_s7, z6, rfl, hz_z6⟩
      rw [h_s7]
      rcases hz_z6 with ⟨c_z6, e_z6⟩ | ⟨c_z6, e_z6⟩
      · rw [e_z6]
        show xe none 97 34 [(0, .ref 0), (1, vi a), (2, vi b), (3, vi d)] [vi 1] s0 0 0 _
        refine x_if_ne k97_34 (t := 41) rfl ⟨by decide, by decide⟩ (fun c8 => ?_) (fun c8 => by exfalso; omega)
        refine x_A k97_41 (fun _ => rfl) ?_
        refine x_getR k97_42 (f := 1) rfl (q := 0) (n := 12) (kd := 3) ⟨by decide, rfl⟩ (q2 := 46) (by decide) rfl ?_
        refine x_A k97_45 (fun _ => rfl) ?_
        refine x_A k97_46 (fun _ => rfl) ?_
        refine x_A k97_47 (fun _ => rfl) ?_
        refine x_callV k97_48 (y := 30) (n := 3) (w0 := 0) (w1 := 3) (as := [vi a, vi b, vi d]) (rest := []) (by decide +kernel) (q := 46) (nq := 4) (kq := 5) ⟨by decide, rfl⟩ rfl rfl rfl rfl (xe_mono (E_X3_add_46 s0 hG0 a (by first | exact x_rb b_a rfl rfl | exact ⟨by omega, by omega⟩) b (by first | exact x_rb b_b rfl rfl | exact ⟨by omega, by omega⟩) d (by first | exact x_rb b_d rfl rfl | exact ⟨by omega, by omega⟩) ⟨by omega, by omega⟩) ?_)
        rintro s10 v ⟨hG_s10, t_s10, z9, rfl, g_z9, xp_z9⟩
        have f_s10 : FL [452, 512, 576, 640] s0 s10 := f0.tr t_s10 (by decide +kernel)
        obtain ⟨z11, e_z11⟩ : ∃ z, z = s10 46 3 := ⟨_, rfl⟩
        have g_z11 : (0 : Int) ≤ s10 46 3 ∧ s10 46 3 ≤ 40 := hG_s10 46 3
        show xe none 97 51 [(0, .ref 0), (1, vi a), (2, vi b), (3, vi d)] [vi z9] s10 0 0 _
        exact x_iret k97_51 rfl ⟨hG_s10, f_s10, z9, rfl, (by first | exact x_rbe e_z9 g_z9 rfl rfl | exact x_rb g_z9 rfl rfl | exact ⟨by omega, by omega⟩), by omega⟩
      · rw [e_z6]
        show xe none 97 34 [(0, .ref 0), (1, vi a), (2, vi b), (3, vi d)] [vi 0] s0 0 0 _
        refine x_if_ne k97_34 (t := 41) rfl ⟨by decide, by decide⟩ (fun c12 => by exfalso; omega) (fun c12 => ?_)
        refine x_sipush k97_37 (by decide +kernel) ?_
        exact x_iret k97_40 rfl ⟨hG0, f0, (-1002), rfl, ⟨by decide, by decide⟩, by omega⟩
    · rw [e_z3]
      show xe none 97 24 [(0, .ref 0), (1, vi a), (2, vi b), (3, vi d)] [vi 0] s0 0 0 _
      refine x_if_eq k97_24 (t := 37) rfl ⟨by decide, by decide⟩ (fun c13 => ?_) (fun c13 => by exfalso; omega)
      refine x_sipush k97_37 (by decide +kernel) ?_
      exact x_iret k97_40 rfl ⟨hG0, f0, (-1002), rfl, ⟨by decide, by decide⟩, by omega⟩
  · skip
    refine x_A k97_5 (fun _ => rfl) ?_
    refine x_getR k97_6 (f := 1) rfl (q := 0) (n := 12) (kd := 3) ⟨by decide, rfl⟩ (q2 := 46) (by decide) rfl ?_
    refine x_A k97_9 (fun _ => rfl) ?_
    refine x_callV k97_10 (y := 29) (n := 1) (w0 := 0) (w1 := 1) (as := [vi d]) (rest := []) (by decide +kernel) (q := 46) (nq := 4) (kq := 5) ⟨by decide, rfl⟩ rfl rfl rfl rfl (xe_mono (C_X3_has_46 s0 hG0 d (by first | exact x_rb b_d rfl rfl | exact ⟨by omega, by omega⟩)) ?_)
    rintro s15 v ⟨h_s15, z14, rfl, hz_z14⟩
    rw [h_s15]
    rcases hz_z14 with ⟨c_z14, e_z14⟩ | ⟨c_z14, e_z14⟩
    · rw [e_z14]
      show xe none 97 13 [(0, .ref 0), (1, vi a), (2, vi b), (3, vi d)] [vi 1] s0 0 0 _
      refine x_if_ne k97_13 (t := 20) rfl ⟨by decide, by decide⟩ (fun c16 => ?_) (fun c16 => by exfalso; omega)
      refine x_A k97_20 (fun _ => rfl) ?_
      refine x_callS k97_21 (y := 122) (n := 1) (w0 := 0) (w1 := 1) (as := [vi a]) (rest := []) (by decide +kernel) rfl rfl rfl rfl (xe_mono (C_X10_isYear s0 hG0 a (by first | exact x_rb b_a rfl rfl | exact ⟨by omega, by omega⟩)) ?_)
      rintro s18 v ⟨h_s18, z17, rfl, hz_z17⟩
      rw [h_s18]
      rcases hz_z17 with ⟨c_z17, e_z17⟩ | ⟨c_z17, e_z17⟩
      · rw [e_z17]
        show xe none 97 24 [(0, .ref 0), (1, vi a), (2, vi b), (3, vi d)] [vi 1] s0 0 0 _
        refine x_if_eq k97_24 (t := 37) rfl ⟨by decide, by decide⟩ (fun c19 => by exfalso; omega) (fun c19 => ?_)
        refine x_A k97_27 (fun _ => rfl) ?_
        refine x_A k97_28 (fun _ => rfl) ?_
        refine x_bipush k97_29 (by decide +kernel) ?_
        refine x_callS k97_31 (y := 121) (n := 3) (w0 := 0) (w1 := 3) (as := [vi b, vi 0, vi 9]) (rest := []) (by decide +kernel) rfl rfl rfl rfl (xe_mono (C_X10_isWithin s0 hG0 b (by first | exact x_rb b_b rfl rfl | exact ⟨by omega, by omega⟩) 0 ⟨by decide, by decide⟩ 9 ⟨by decide, by decide⟩) ?_)
        rintro s21 v ⟨h_s21, z20, rfl, hz_z20⟩
        rw [h_s21]
        rcases hz_z20 with ⟨c_z20, e_z20⟩ | ⟨c_z20, e_z20⟩
        · rw [e_z20]
          show xe none 97 34 [(0, .ref 0), (1, vi a), (2, vi b), (3, vi d)] [vi 1] s0 0 0 _
          refine x_if_ne k97_34 (t := 41) rfl ⟨by decide, by decide⟩ (fun c22 => ?_) (fun c22 => by exfalso; omega)
          refine x_A k97_41 (fun _ => rfl) ?_
          refine x_getR k97_42 (f := 1) rfl (q := 0) (n := 12) (kd := 3) ⟨by decide, rfl⟩ (q2 := 46) (by decide) rfl ?_
          refine x_A k97_45 (fun _ => rfl) ?_
          refine x_A k97_46 (fun _ => rfl) ?_
          refine x_A k97_47 (fun _ => rfl) ?_
          refine x_callV k97_48 (y := 30) (n := 3) (w0 := 0) (w1 := 3) (as := [vi a, vi b, vi d]) (rest := []) (by decide +kernel) (q := 46) (nq := 4) (kq := 5) ⟨by decide, rfl⟩ rfl rfl rfl rfl (xe_mono (E_X3_add_46 s0 hG0 a (by first | exact x_rb b_a rfl rfl | exact ⟨by omega, by omega⟩) b (by first | exact x_rb b_b rfl rfl | exact ⟨by omega, by omega⟩) d (by first | exact x_rb b_d rfl rfl | exact ⟨by omega, by omega⟩) ⟨by omega, by omega⟩) ?_)
          rintro s24 v ⟨hG_s24, t_s24, z23, rfl, g_z23, xp_z23⟩
          have f_s24 : FL [452, 512, 576, 640] s0 s24 := f0.tr t_s24 (by decide +kernel)
          obtain ⟨z25, e_z25⟩ : ∃ z, z = s24 46 3 := ⟨_, rfl⟩
          have g_z25 : (0 : Int) ≤ s24 46 3 ∧ s24 46 3 ≤ 40 := hG_s24 46 3
          show xe none 97 51 [(0, .ref 0), (1, vi a), (2, vi b), (3, vi d)] [vi z23] s24 0 0 _
          exact x_iret k97_51 rfl ⟨hG_s24, f_s24, z23, rfl, (by first | exact x_rbe e_z23 g_z23 rfl rfl | exact x_rb g_z23 rfl rfl | exact ⟨by omega, by omega⟩), by omega⟩
        · rw [e_z20]
          show xe none 97 34 [(0, .ref 0), (1, vi a), (2, vi b), (3, vi d)] [vi 0] s0 0 0 _
          refine x_if_ne k97_34 (t := 41) rfl ⟨by decide, by decide⟩ (fun c26 => by exfalso; omega) (fun c26 => ?_)
          refine x_sipush k97_37 (by decide +kernel) ?_
          exact x_iret k97_40 rfl ⟨hG0, f0, (-1002), rfl, ⟨by decide, by decide⟩, by omega⟩
      · rw [e_z17]
        show xe none 97 24 [(0, .ref 0), (1, vi a), (2, vi b), (3, vi d)] [vi 0] s0 0 0 _
        refine x_if_eq k97_24 (t := 37) rfl ⟨by decide, by decide⟩ (fun c27 => ?_) (fun c27 => by exfalso; omega)
        refine x_sipush k97_37 (by decide +kernel) ?_
        exact x_iret k97_40 rfl ⟨hG0, f0, (-1002), rfl, ⟨by decide, by decide⟩, by omega⟩
    · rw [e_z14]
      show xe none 97 13 [(0, .ref 0), (1, vi a), (2, vi b), (3, vi d)] [vi 0] s0 0 0 _
      refine x_if_ne k97_13 (t := 20) rfl ⟨by decide, by decide⟩ (fun c28 => by exfalso; omega) (fun c28 => ?_)
      refine x_sipush k97_16 (by decide +kernel) ?_
      exact x_iret k97_19 rfl ⟨hG0, f0, (-1001), rfl, ⟨by decide, by decide⟩, by omega⟩
set_option maxHeartbeats 8000000 in
theorem E_X11_picture_256 (s0 : xS) (hG0 : GI s0) (a : Int) (b_a : (-2147483648) ≤ a ∧ a ≤ 2147483647) (b : Int) (b_b : (-2147483648) ≤ b ∧ b ≤ 2147483647) (d : Int) (b_d : (-2147483648) ≤ d ∧ d ≤ 2147483647) (p_256_6 : 0 ≤ s0 256 6 ∧ s0 256 6 ≤ 40) (i0_J : J s0) : xe none 154 0 (lv_args 0 [.ref 256, vi a, vi b, vi d]) [] s0 0 0 (fun s' v => GI s' ∧ FL [4103, 4416, 4480, 4544] s0 s' ∧ ∃ z, v = some (vi z) ∧ ((-1004) ≤ z ∧ z ≤ 39) ∧ ((¬ (d = -1 ∨ (0 ≤ d ∧ d < s0 256 6)) ∧ z = -1001 ∧ s' 256 6 = s0 256 6) ∨ ((d = -1 ∨ (0 ≤ d ∧ d < s0 256 6)) ∧ ¬ (0 ≤ a ∧ a ≤ 999 ∧ 0 ≤ b ∧ b ≤ 9) ∧ z = -1002 ∧ s' 256 6 = s0 256 6) ∨ ((d = -1 ∨ (0 ≤ d ∧ d < s0 256 6)) ∧ (0 ≤ a ∧ a ≤ 999 ∧ 0 ≤ b ∧ b ≤ 9) ∧ s0 256 6 ≥ 40 ∧ z = -1004 ∧ s' 256 6 = s0 256 6) ∨ ((d = -1 ∨ (0 ≤ d ∧ d < s0 256 6)) ∧ (0 ≤ a ∧ a ≤ 999 ∧ 0 ≤ b ∧ b ≤ 9) ∧ s0 256 6 < 40 ∧ z = s0 256 6 ∧ s' 256 6 = s0 256 6 + 1)) ∧ J s') := by
  have f0 : FL [4103, 4416, 4480, 4544] s0 s0 := FL.rf
  show xe none 154 0 [(0, .ref 256), (1, vi a), (2, vi b), (3, vi d)] [] s0 0 0 _
  obtain ⟨z1, e_z1⟩ : ∃ z, z = s0 256 6 := ⟨_, rfl⟩
  have g_z1 : (0 : Int) ≤ s0 256 6 ∧ s0 256 6 ≤ 40 := hG0 256 6
  refine x_A k154_0 (fun _ => rfl) ?_
  refine x_A k154_1 (fun _ => rfl) ?_
  refine x_ic_eq k154_2 (t := 17) rfl (by first | exact x_rb b_d rfl rfl | exact ⟨by omega, by omega⟩) ⟨by decide, by decide⟩ (fun c2 => ?_) (fun c2 => ?_)
  · skip
    refine x_A k154_17 (fun _ => rfl) ?_
    refine x_i2l k154_18 (by first | exact x_rb b_a rfl rfl | exact ⟨by omega, by omega⟩) ?_
    refine x_lconst k154_19 (z := 0) (by decide +kernel) ?_
    refine x_ldc2 k154_20 (z := 999) rfl (by decide +kernel) ?_
    refine x_callS k154_23 (y := 136) (n := 3) (w0 := 0) (w1 := 6) (as := [vj a, vj 0, vj 999]) (rest := []) (by decide +kernel) rfl rfl rfl rfl (xe_mono (C_X11_in s0 hG0 a ⟨by omega, by omega⟩ 0 ⟨by omega, by omega⟩ 999 ⟨by omega, by omega⟩) ?_)
    rintro s4 v ⟨h_s4, z3, rfl, hz_z3⟩
    rw [h_s4]
    rcases hz_z3 with ⟨c_z3, e_z3⟩ | ⟨c_z3, e_z3⟩
    · rw [e_z3]
      show xe none 154 26 [(0, .ref 256), (1, vi a), (2, vi b), (3, vi d)] [vi 1] s0 0 0 _
      refine x_if_eq k154_26 (t := 41) rfl ⟨by decide, by decide⟩ (fun c5 => by exfalso; omega) (fun c5 => ?_)
      refine x_A k154_29 (fun _ => rfl) ?_
      refine x_i2l k154_30 (by first | exact x_rb b_b rfl rfl | exact ⟨by omega, by omega⟩) ?_
      refine x_lconst k154_31 (z := 0) (by decide +kernel) ?_
      refine x_ldc2 k154_32 (z := 9) rfl (by decide +kernel) ?_
      refine x_callS k154_35 (y := 136) (n := 3) (w0 := 0) (w1 := 6) (as := [vj b, vj 0, vj 9]) (rest := []) (by decide +kernel) rfl rfl rfl rfl (xe_mono (C_X11_in s0 hG0 b ⟨by omega, by omega⟩ 0 ⟨by omega, by omega⟩ 9 ⟨by omega, by omega⟩) ?_)
      rintro s7 v ⟨h_s7, z6, rfl, hz_z6⟩
      rw [h_s7]
      rcases hz_z6 with ⟨c_z6, e_z6⟩ | ⟨c_z6, e_z6⟩
      · rw [e_z6]
        show xe none 154 38 [(0, .ref 256), (1, vi a), (2, vi b), (3, vi d)] [vi 1] s0 0 0 _
        refine x_if_ne k154_38 (t := 45) rfl ⟨by decide, by decide⟩ (fun c8 => ?_) (fun c8 => by exfalso; omega)
        refine x_A k154_45 (fun _ => rfl) ?_
        refine x_getI k154_46 (f := 6) rfl (q := 256) (n := 62) (kd := 15) ⟨by decide, rfl⟩ (by decide) rfl ?_
        rw [e_z1.symm]
        refine x_bipush k154_49 (by decide +kernel) ?_
        refine x_ic_ne k154_51 (t := 58) rfl (by first | exact x_rbe e_z1 g_z1 rfl rfl | exact x_rb g_z1 rfl rfl | exact ⟨by omega, by omega⟩) ⟨by decide, by decide⟩ (fun c9 => ?_) (fun c9 => ?_)
        · skip
          refine x_A k154_58 (fun _ => rfl) ?_
          refine x_getR k154_59 (f := 7) rfl (q := 256) (n := 62) (kd := 15) ⟨by decide, rfl⟩ (q2 := 261) (by decide) rfl ?_
          refine x_A k154_62 (fun _ => rfl) ?_
          refine x_getI k154_63 (f := 6) rfl (q := 256) (n := 62) (kd := 15) ⟨by decide, rfl⟩ (by decide) rfl ?_
          rw [e_z1.symm]
          refine x_A k154_66 (fun _ => rfl) ?_
          refine x_iast k154_67 (q := 261) (n := 40) ⟨by decide, rfl⟩ (by decide) (by first | exact x_rbel e_z1 g_z1 rfl rfl | exact x_rbl g_z1 rfl rfl | exact ⟨by omega, by omega⟩) ?_
          refine x_nh (fun s10 e_s10 => ?_)
          have hG_s10 : GI s10 := by rw [e_s10]; exact hG0.up (show 0 ≤ a ∧ a ≤ 999 from (by first | exact x_rb b_a rfl rfl | exact ⟨by omega, by omega⟩))
          have f_s10 : FL [4103, 4416, 4480, 4544] s0 s10 := by rw [e_s10]; exact f0.up (show 4416 ∈ [4103, 4416, 4480, 4544] from by decide +kernel)
          have q11 : s10 256 6 = z1 := by rw [e_s10, x_up_q (by decide)]; exact e_z1.symm
          have q12 : s10 261 z1.toNat = a := by rw [e_s10]; exact x_up_same
          have J_s10 : J s10 := by rw [e_s10]; exact J.up i0_J (show 4416 ∉ LJ from by decide)
          refine x_A k154_68 (fun _ => rfl) ?_
          refine x_getR k154_69 (f := 8) rfl (q := 256) (n := 62) (kd := 15) ⟨by decide, rfl⟩ (q2 := 262) (by decide) rfl ?_
          refine x_A k154_72 (fun _ => rfl) ?_
          refine x_getI k154_73 (f := 6) rfl (q := 256) (n := 62) (kd := 15) ⟨by decide, rfl⟩ (by decide) rfl ?_
          rw [q11]
          refine x_A k154_76 (fun _ => rfl) ?_
          refine x_iast k154_77 (q := 262) (n := 40) ⟨by decide, rfl⟩ (by decide) (by first | exact x_rbel e_z1 g_z1 rfl rfl | exact x_rbl g_z1 rfl rfl | exact ⟨by omega, by omega⟩) ?_
          refine x_nh (fun s13 e_s13 => ?_)
          have hG_s13 : GI s13 := by rw [e_s13]; exact hG_s10.up (show 0 ≤ b ∧ b ≤ 9 from (by first | exact x_rb b_b rfl rfl | exact ⟨by omega, by omega⟩))
          have f_s13 : FL [4103, 4416, 4480, 4544] s0 s13 := by rw [e_s13]; exact f_s10.up (show 4480 ∈ [4103, 4416, 4480, 4544] from by decide +kernel)
          have q14 : s13 256 6 = z1 := by rw [e_s13, x_up_q (by decide)]; exact q11
          have q15 : s13 261 z1.toNat = a := by rw [e_s13, x_up_q (by first | decide | omega)]; exact q12
          have q16 : s13 262 z1.toNat = b := by rw [e_s13]; exact x_up_same
          have J_s13 : J s13 := by rw [e_s13]; exact J.up J_s10 (show 4480 ∉ LJ from by decide)
          refine x_A k154_78 (fun _ => rfl) ?_
          refine x_getR k154_79 (f := 9) rfl (q := 256) (n := 62) (kd := 15) ⟨by decide, rfl⟩ (q2 := 263) (by decide) rfl ?_
          refine x_A k154_82 (fun _ => rfl) ?_
          refine x_getI k154_83 (f := 6) rfl (q := 256) (n := 62) (kd := 15) ⟨by decide, rfl⟩ (by decide) rfl ?_
          rw [q14]
          refine x_A k154_86 (fun _ => rfl) ?_
          refine x_iast k154_87 (q := 263) (n := 40) ⟨by decide, rfl⟩ (by decide) (by first | exact x_rbel e_z1 g_z1 rfl rfl | exact x_rbl g_z1 rfl rfl | exact ⟨by omega, by omega⟩) ?_
          refine x_nh (fun s17 e_s17 => ?_)
          have hG_s17 : GI s17 := by rw [e_s17]; exact hG_s13.up (show (-1) ≤ d ∧ d ≤ 39 from (by first | exact x_rb b_d rfl rfl | exact ⟨by omega, by omega⟩))
          have f_s17 : FL [4103, 4416, 4480, 4544] s0 s17 := by rw [e_s17]; exact f_s13.up (show 4544 ∈ [4103, 4416, 4480, 4544] from by decide +kernel)
          have q18 : s17 256 6 = z1 := by rw [e_s17, x_up_q (by decide)]; exact q14
          have q19 : s17 261 z1.toNat = a := by rw [e_s17, x_up_q (by first | decide | omega)]; exact q15
          have q20 : s17 262 z1.toNat = b := by rw [e_s17, x_up_q (by first | decide | omega)]; exact q16
          have q21 : s17 263 z1.toNat = d := by rw [e_s17]; exact x_up_same
          refine x_A k154_88 (fun _ => rfl) ?_
          refine x_A k154_89 (fun _ => rfl) ?_
          refine x_getI k154_90 (f := 6) rfl (q := 256) (n := 62) (kd := 15) ⟨by decide, rfl⟩ (by decide) rfl ?_
          rw [q18]
          refine x_A k154_93 (fun _ => rfl) ?_
          refine x_iadd k154_94 ?_
          refine x_top (fun z22 e_z22 => ?_)
          refine x_putI k154_95 (f := 6) rfl (q := 256) (n := 62) (kd := 15) ⟨by decide, rfl⟩ rfl rfl rfl ?_
          refine x_nh (fun s23 e_s23 => ?_)
          have hG_s23 : GI s23 := by rw [e_s23]; exact hG_s17.up (show 0 ≤ z22 ∧ z22 ≤ 40 from (by first | exact x_rbe e_z22 g_z22 rfl rfl | exact x_rb g_z22 rfl rfl | exact ⟨by omega, by omega⟩))
          have f_s23 : FL [4103, 4416, 4480, 4544] s0 s23 := by rw [e_s23]; exact f_s17.up (show 4103 ∈ [4103, 4416, 4480, 4544] from by decide +kernel)
          have q24 : s23 256 6 = z22 := by rw [e_s23]; exact x_up_same
          have q25 : s23 261 z1.toNat = a := by rw [e_s23, x_up_q (by first | decide | omega)]; exact q19
          have q26 : s23 262 z1.toNat = b := by rw [e_s23, x_up_q (by first | decide | omega)]; exact q20
          have q27 : s23 263 z1.toNat = d := by rw [e_s23, x_up_q (by first | decide | omega)]; exact q21
          have J_p : J s23 := by rw [e_s23, e_s17, e_s13, e_s10]; exact J.pict i0_J e_z1 ⟨by omega, by omega⟩ (by omega) (by omega)
          refine x_A k154_98 (fun _ => rfl) ?_
          refine x_getI k154_99 (f := 6) rfl (q := 256) (n := 62) (kd := 15) ⟨by decide, rfl⟩ (by decide) rfl ?_
          rw [q24]
          refine x_A k154_102 (fun _ => rfl) ?_
          refine x_isub k154_103 ?_
          refine x_top (fun z28 e_z28 => ?_)
          exact x_iret k154_104 rfl ⟨hG_s23, f_s23, z28, rfl, (by first | exact x_rbe e_z28 g_z28 rfl rfl | exact x_rb g_z28 rfl rfl | exact ⟨by omega, by omega⟩), by omega, J_p⟩
        · skip
          refine x_sipush k154_54 (by decide +kernel) ?_
          exact x_iret k154_57 rfl ⟨hG0, f0, (-1004), rfl, ⟨by decide, by decide⟩, by omega, i0_J⟩
      · rw [e_z6]
        show xe none 154 38 [(0, .ref 256), (1, vi a), (2, vi b), (3, vi d)] [vi 0] s0 0 0 _
        refine x_if_ne k154_38 (t := 45) rfl ⟨by decide, by decide⟩ (fun c29 => by exfalso; omega) (fun c29 => ?_)
        refine x_sipush k154_41 (by decide +kernel) ?_
        exact x_iret k154_44 rfl ⟨hG0, f0, (-1002), rfl, ⟨by decide, by decide⟩, by omega, i0_J⟩
    · rw [e_z3]
      show xe none 154 26 [(0, .ref 256), (1, vi a), (2, vi b), (3, vi d)] [vi 0] s0 0 0 _
      refine x_if_eq k154_26 (t := 41) rfl ⟨by decide, by decide⟩ (fun c30 => ?_) (fun c30 => by exfalso; omega)
      refine x_sipush k154_41 (by decide +kernel) ?_
      exact x_iret k154_44 rfl ⟨hG0, f0, (-1002), rfl, ⟨by decide, by decide⟩, by omega, i0_J⟩
  · skip
    refine x_A k154_5 (fun _ => rfl) ?_
    refine x_A k154_6 (fun _ => rfl) ?_
    refine x_callV k154_7 (y := 151) (n := 1) (w0 := 0) (w1 := 1) (as := [vi d]) (rest := []) (by decide +kernel) (q := 256) (nq := 62) (kq := 15) ⟨by decide, rfl⟩ rfl rfl rfl rfl (xe_mono (C_X11_isPicture_256 s0 hG0 d (by first | exact x_rb b_d rfl rfl | exact ⟨by omega, by omega⟩)) ?_)
    rintro s32 v ⟨h_s32, z31, rfl, hz_z31⟩
    rw [h_s32]
    rcases hz_z31 with ⟨c_z31, e_z31⟩ | ⟨c_z31, e_z31⟩
    · rw [e_z31]
      show xe none 154 10 [(0, .ref 256), (1, vi a), (2, vi b), (3, vi d)] [vi 1] s0 0 0 _
      refine x_if_ne k154_10 (t := 17) rfl ⟨by decide, by decide⟩ (fun c33 => ?_) (fun c33 => by exfalso; omega)
      refine x_A k154_17 (fun _ => rfl) ?_
      refine x_i2l k154_18 (by first | exact x_rb b_a rfl rfl | exact ⟨by omega, by omega⟩) ?_
      refine x_lconst k154_19 (z := 0) (by decide +kernel) ?_
      refine x_ldc2 k154_20 (z := 999) rfl (by decide +kernel) ?_
      refine x_callS k154_23 (y := 136) (n := 3) (w0 := 0) (w1 := 6) (as := [vj a, vj 0, vj 999]) (rest := []) (by decide +kernel) rfl rfl rfl rfl (xe_mono (C_X11_in s0 hG0 a ⟨by omega, by omega⟩ 0 ⟨by omega, by omega⟩ 999 ⟨by omega, by omega⟩) ?_)
      rintro s35 v ⟨h_s35, z34, rfl, hz_z34⟩
      rw [h_s35]
      rcases hz_z34 with ⟨c_z34, e_z34⟩ | ⟨c_z34, e_z34⟩
      · rw [e_z34]
        show xe none 154 26 [(0, .ref 256), (1, vi a), (2, vi b), (3, vi d)] [vi 1] s0 0 0 _
        refine x_if_eq k154_26 (t := 41) rfl ⟨by decide, by decide⟩ (fun c36 => by exfalso; omega) (fun c36 => ?_)
        refine x_A k154_29 (fun _ => rfl) ?_
        refine x_i2l k154_30 (by first | exact x_rb b_b rfl rfl | exact ⟨by omega, by omega⟩) ?_
        refine x_lconst k154_31 (z := 0) (by decide +kernel) ?_
        refine x_ldc2 k154_32 (z := 9) rfl (by decide +kernel) ?_
        refine x_callS k154_35 (y := 136) (n := 3) (w0 := 0) (w1 := 6) (as := [vj b, vj 0, vj 9]) (rest := []) (by decide +kernel) rfl rfl rfl rfl (xe_mono (C_X11_in s0 hG0 b ⟨by omega, by omega⟩ 0 ⟨by omega, by omega⟩ 9 ⟨by omega, by omega⟩) ?_)
        rintro s38 v ⟨h_s38, z37, rfl, hz_z37⟩
        rw [h_s38]
        rcases hz_z37 with ⟨c_z37, e_z37⟩ | ⟨c_z37, e_z37⟩
        · rw [e_z37]
          show xe none 154 38 [(0, .ref 256), (1, vi a), (2, vi b), (3, vi d)] [vi 1] s0 0 0 _
          refine x_if_ne k154_38 (t := 45) rfl ⟨by decide, by decide⟩ (fun c39 => ?_) (fun c39 => by exfalso; omega)
          refine x_A k154_45 (fun _ => rfl) ?_
          refine x_getI k154_46 (f := 6) rfl (q := 256) (n := 62) (kd := 15) ⟨by decide, rfl⟩ (by decide) rfl ?_
          rw [e_z1.symm]
          refine x_bipush k154_49 (by decide +kernel) ?_
          refine x_ic_ne k154_51 (t := 58) rfl (by first | exact x_rbe e_z1 g_z1 rfl rfl | exact x_rb g_z1 rfl rfl | exact ⟨by omega, by omega⟩) ⟨by decide, by decide⟩ (fun c40 => ?_) (fun c40 => ?_)
          · skip
            refine x_A k154_58 (fun _ => rfl) ?_
            refine x_getR k154_59 (f := 7) rfl (q := 256) (n := 62) (kd := 15) ⟨by decide, rfl⟩ (q2 := 261) (by decide) rfl ?_
            refine x_A k154_62 (fun _ => rfl) ?_
            refine x_getI k154_63 (f := 6) rfl (q := 256) (n := 62) (kd := 15) ⟨by decide, rfl⟩ (by decide) rfl ?_
            rw [e_z1.symm]
            refine x_A k154_66 (fun _ => rfl) ?_
            refine x_iast k154_67 (q := 261) (n := 40) ⟨by decide, rfl⟩ (by decide) (by first | exact x_rbel e_z1 g_z1 rfl rfl | exact x_rbl g_z1 rfl rfl | exact ⟨by omega, by omega⟩) ?_
            refine x_nh (fun s41 e_s41 => ?_)
            have hG_s41 : GI s41 := by rw [e_s41]; exact hG0.up (show 0 ≤ a ∧ a ≤ 999 from (by first | exact x_rb b_a rfl rfl | exact ⟨by omega, by omega⟩))
            have f_s41 : FL [4103, 4416, 4480, 4544] s0 s41 := by rw [e_s41]; exact f0.up (show 4416 ∈ [4103, 4416, 4480, 4544] from by decide +kernel)
            have q42 : s41 256 6 = z1 := by rw [e_s41, x_up_q (by decide)]; exact e_z1.symm
            have q43 : s41 261 z1.toNat = a := by rw [e_s41]; exact x_up_same
            have J_s41 : J s41 := by rw [e_s41]; exact J.up i0_J (show 4416 ∉ LJ from by decide)
            refine x_A k154_68 (fun _ => rfl) ?_
            refine x_getR k154_69 (f := 8) rfl (q := 256) (n := 62) (kd := 15) ⟨by decide, rfl⟩ (q2 := 262) (by decide) rfl ?_
            refine x_A k154_72 (fun _ => rfl) ?_
            refine x_getI k154_73 (f := 6) rfl (q := 256) (n := 62) (kd := 15) ⟨by decide, rfl⟩ (by decide) rfl ?_
            rw [q42]
            refine x_A k154_76 (fun _ => rfl) ?_
            refine x_iast k154_77 (q := 262) (n := 40) ⟨by decide, rfl⟩ (by decide) (by first | exact x_rbel e_z1 g_z1 rfl rfl | exact x_rbl g_z1 rfl rfl | exact ⟨by omega, by omega⟩) ?_
            refine x_nh (fun s44 e_s44 => ?_)
            have hG_s44 : GI s44 := by rw [e_s44]; exact hG_s41.up (show 0 ≤ b ∧ b ≤ 9 from (by first | exact x_rb b_b rfl rfl | exact ⟨by omega, by omega⟩))
            have f_s44 : FL [4103, 4416, 4480, 4544] s0 s44 := by rw [e_s44]; exact f_s41.up (show 4480 ∈ [4103, 4416, 4480, 4544] from by decide +kernel)
            have q45 : s44 256 6 = z1 := by rw [e_s44, x_up_q (by decide)]; exact q42
            have q46 : s44 261 z1.toNat = a := by rw [e_s44, x_up_q (by first | decide | omega)]; exact q43
            have q47 : s44 262 z1.toNat = b := by rw [e_s44]; exact x_up_same
            have J_s44 : J s44 := by rw [e_s44]; exact J.up J_s41 (show 4480 ∉ LJ from by decide)
            refine x_A k154_78 (fun _ => rfl) ?_
            refine x_getR k154_79 (f := 9) rfl (q := 256) (n := 62) (kd := 15) ⟨by decide, rfl⟩ (q2 := 263) (by decide) rfl ?_
            refine x_A k154_82 (fun _ => rfl) ?_
            refine x_getI k154_83 (f := 6) rfl (q := 256) (n := 62) (kd := 15) ⟨by decide, rfl⟩ (by decide) rfl ?_
            rw [q45]
            refine x_A k154_86 (fun _ => rfl) ?_
            refine x_iast k154_87 (q := 263) (n := 40) ⟨by decide, rfl⟩ (by decide) (by first | exact x_rbel e_z1 g_z1 rfl rfl | exact x_rbl g_z1 rfl rfl | exact ⟨by omega, by omega⟩) ?_
            refine x_nh (fun s48 e_s48 => ?_)
            have hG_s48 : GI s48 := by rw [e_s48]; exact hG_s44.up (show (-1) ≤ d ∧ d ≤ 39 from (by first | exact x_rb b_d rfl rfl | exact ⟨by omega, by omega⟩))
            have f_s48 : FL [4103, 4416, 4480, 4544] s0 s48 := by rw [e_s48]; exact f_s44.up (show 4544 ∈ [4103, 4416, 4480, 4544] from by decide +kernel)
            have q49 : s48 256 6 = z1 := by rw [e_s48, x_up_q (by decide)]; exact q45
            have q50 : s48 261 z1.toNat = a := by rw [e_s48, x_up_q (by first | decide | omega)]; exact q46
            have q51 : s48 262 z1.toNat = b := by rw [e_s48, x_up_q (by first | decide | omega)]; exact q47
            have q52 : s48 263 z1.toNat = d := by rw [e_s48]; exact x_up_same
            refine x_A k154_88 (fun _ => rfl) ?_
            refine x_A k154_89 (fun _ => rfl) ?_
            refine x_getI k154_90 (f := 6) rfl (q := 256) (n := 62) (kd := 15) ⟨by decide, rfl⟩ (by decide) rfl ?_
            rw [q49]
            refine x_A k154_93 (fun _ => rfl) ?_
            refine x_iadd k154_94 ?_
            refine x_top (fun z53 e_z53 => ?_)
            refine x_putI k154_95 (f := 6) rfl (q := 256) (n := 62) (kd := 15) ⟨by decide, rfl⟩ rfl rfl rfl ?_
            refine x_nh (fun s54 e_s54 => ?_)
            have hG_s54 : GI s54 := by rw [e_s54]; exact hG_s48.up (show 0 ≤ z53 ∧ z53 ≤ 40 from (by first | exact x_rbe e_z53 g_z53 rfl rfl | exact x_rb g_z53 rfl rfl | exact ⟨by omega, by omega⟩))
            have f_s54 : FL [4103, 4416, 4480, 4544] s0 s54 := by rw [e_s54]; exact f_s48.up (show 4103 ∈ [4103, 4416, 4480, 4544] from by decide +kernel)
            have q55 : s54 256 6 = z53 := by rw [e_s54]; exact x_up_same
            have q56 : s54 261 z1.toNat = a := by rw [e_s54, x_up_q (by first | decide | omega)]; exact q50
            have q57 : s54 262 z1.toNat = b := by rw [e_s54, x_up_q (by first | decide | omega)]; exact q51
            have q58 : s54 263 z1.toNat = d := by rw [e_s54, x_up_q (by first | decide | omega)]; exact q52
            have J_p : J s54 := by rw [e_s54, e_s48, e_s44, e_s41]; exact J.pict i0_J e_z1 ⟨by omega, by omega⟩ (by omega) (by omega)
            refine x_A k154_98 (fun _ => rfl) ?_
            refine x_getI k154_99 (f := 6) rfl (q := 256) (n := 62) (kd := 15) ⟨by decide, rfl⟩ (by decide) rfl ?_
            rw [q55]
            refine x_A k154_102 (fun _ => rfl) ?_
            refine x_isub k154_103 ?_
            refine x_top (fun z59 e_z59 => ?_)
            exact x_iret k154_104 rfl ⟨hG_s54, f_s54, z59, rfl, (by first | exact x_rbe e_z59 g_z59 rfl rfl | exact x_rb g_z59 rfl rfl | exact ⟨by omega, by omega⟩), by omega, J_p⟩
          · skip
            refine x_sipush k154_54 (by decide +kernel) ?_
            exact x_iret k154_57 rfl ⟨hG0, f0, (-1004), rfl, ⟨by decide, by decide⟩, by omega, i0_J⟩
        · rw [e_z37]
          show xe none 154 38 [(0, .ref 256), (1, vi a), (2, vi b), (3, vi d)] [vi 0] s0 0 0 _
          refine x_if_ne k154_38 (t := 45) rfl ⟨by decide, by decide⟩ (fun c60 => by exfalso; omega) (fun c60 => ?_)
          refine x_sipush k154_41 (by decide +kernel) ?_
          exact x_iret k154_44 rfl ⟨hG0, f0, (-1002), rfl, ⟨by decide, by decide⟩, by omega, i0_J⟩
      · rw [e_z34]
        show xe none 154 26 [(0, .ref 256), (1, vi a), (2, vi b), (3, vi d)] [vi 0] s0 0 0 _
        refine x_if_eq k154_26 (t := 41) rfl ⟨by decide, by decide⟩ (fun c61 => ?_) (fun c61 => by exfalso; omega)
        refine x_sipush k154_41 (by decide +kernel) ?_
        exact x_iret k154_44 rfl ⟨hG0, f0, (-1002), rfl, ⟨by decide, by decide⟩, by omega, i0_J⟩
    · rw [e_z31]
      show xe none 154 10 [(0, .ref 256), (1, vi a), (2, vi b), (3, vi d)] [vi 0] s0 0 0 _
      refine x_if_ne k154_10 (t := 17) rfl ⟨by decide, by decide⟩ (fun c62 => by exfalso; omega) (fun c62 => ?_)
      refine x_sipush k154_13 (by decide +kernel) ?_
      exact x_iret k154_16 rfl ⟨hG0, f0, (-1001), rfl, ⟨by decide, by decide⟩, by omega, i0_J⟩
set_option maxHeartbeats 8000000 in
theorem E_X5_add_231 (s0 : xS) (hG0 : GI s0)  : xe none 44 0 (lv_args 0 [.ref 231]) [] s0 0 0 (fun s' v => GI s' ∧ FL [2884] s0 s' ∧ ∃ z, v = some (vi z) ∧ ((-1004) ≤ z ∧ z ≤ 3) ∧ ((s0 231 3 ≥ 4 ∧ z = -1004 ∧ s' 231 3 = s0 231 3) ∨ (s0 231 3 < 4 ∧ z = s0 231 3 ∧ s' 231 3 = s0 231 3 + 1))) := by
  have f0 : FL [2884] s0 s0 := FL.rf
  show xe none 44 0 [(0, .ref 231)] [] s0 0 0 _
  refine x_A k44_0 (fun _ => rfl) ?_
  refine x_getI k44_1 (f := 3) rfl (q := 231) (n := 4) (kd := 12) ⟨by decide, rfl⟩ (by decide) rfl ?_
  refine x_top (fun z1 e_z1 => ?_)
  have g_z1 : (0 : Int) ≤ s0 231 3 ∧ s0 231 3 ≤ 4 := hG0 231 3
  refine x_A k44_4 (fun _ => rfl) ?_
  refine x_ic_lt k44_5 (t := 12) rfl (by first | exact x_rbe e_z1 g_z1 rfl rfl | exact x_rb g_z1 rfl rfl | exact ⟨by omega, by omega⟩) ⟨by decide, by decide⟩ (fun c2 => ?_) (fun c2 => ?_)
  · skip
    refine x_A k44_12 (fun _ => rfl) ?_
    refine x_A k44_13 (fun _ => rfl) ?_
    refine x_getI k44_14 (f := 3) rfl (q := 231) (n := 4) (kd := 12) ⟨by decide, rfl⟩ (by decide) rfl ?_
    rw [e_z1.symm]
    refine x_A k44_17 (fun _ => rfl) ?_
    refine x_iadd k44_18 ?_
    refine x_top (fun z3 e_z3 => ?_)
    refine x_putI k44_19 (f := 3) rfl (q := 231) (n := 4) (kd := 12) ⟨by decide, rfl⟩ rfl rfl rfl ?_
    refine x_nh (fun s4 e_s4 => ?_)
    have hG_s4 : GI s4 := by rw [e_s4]; exact hG0.up (show 0 ≤ z3 ∧ z3 ≤ 4 from (by first | exact x_rbe e_z3 g_z3 rfl rfl | exact x_rb g_z3 rfl rfl | exact ⟨by omega, by omega⟩))
    have f_s4 : FL [2884] s0 s4 := by rw [e_s4]; exact f0.up (show 2884 ∈ [2884] from by decide +kernel)
    have q5 : s4 231 3 = z3 := by rw [e_s4]; exact x_up_same
    refine x_A k44_22 (fun _ => rfl) ?_
    refine x_getI k44_23 (f := 3) rfl (q := 231) (n := 4) (kd := 12) ⟨by decide, rfl⟩ (by decide) rfl ?_
    rw [q5]
    refine x_A k44_26 (fun _ => rfl) ?_
    refine x_isub k44_27 ?_
    refine x_top (fun z6 e_z6 => ?_)
    exact x_iret k44_28 rfl ⟨hG_s4, f_s4, z6, rfl, (by first | exact x_rbe e_z6 g_z6 rfl rfl | exact x_rb g_z6 rfl rfl | exact ⟨by omega, by omega⟩), by omega⟩
  · skip
    refine x_sipush k44_8 (by decide +kernel) ?_
    exact x_iret k44_11 rfl ⟨hG0, f0, (-1004), rfl, ⟨by decide, by decide⟩, by omega⟩
set_option maxHeartbeats 8000000 in
theorem E_X10_story_0 (s0 : xS) (hG0 : GI s0)  : xe none 117 0 (lv_args 0 [.ref 0]) [] s0 0 0 (fun s' v => GI s' ∧ FL [2884] s0 s' ∧ ∃ z, v = some (vi z) ∧ ((-1004) ≤ z ∧ z ≤ 3) ∧ ((s0 231 3 ≥ 4 ∧ z = -1004 ∧ s' 231 3 = s0 231 3) ∨ (s0 231 3 < 4 ∧ z = s0 231 3 ∧ s' 231 3 = s0 231 3 + 1))) := by
  have f0 : FL [2884] s0 s0 := FL.rf
  show xe none 117 0 [(0, .ref 0)] [] s0 0 0 _
  refine x_A k117_0 (fun _ => rfl) ?_
  refine x_getR k117_1 (f := 8) rfl (q := 0) (n := 12) (kd := 3) ⟨by decide, rfl⟩ (q2 := 231) (by decide) rfl ?_
  refine x_callV k117_4 (y := 44) (n := 0) (w0 := 0) (w1 := 0) (as := []) (rest := []) (by decide +kernel) (q := 231) (nq := 4) (kq := 12) ⟨by decide, rfl⟩ rfl rfl rfl rfl (xe_mono (E_X5_add_231 s0 hG0) ?_)
  rintro s2 v ⟨hG_s2, t_s2, z1, rfl, g_z1, xp_z1⟩
  have f_s2 : FL [2884] s0 s2 := f0.tr t_s2 (by decide +kernel)
  obtain ⟨z3, e_z3⟩ : ∃ z, z = s2 231 3 := ⟨_, rfl⟩
  have g_z3 : (0 : Int) ≤ s2 231 3 ∧ s2 231 3 ≤ 4 := hG_s2 231 3
  show xe none 117 7 [(0, .ref 0)] [vi z1] s2 0 0 _
  exact x_iret k117_7 rfl ⟨hG_s2, f_s2, z1, rfl, (by first | exact x_rbe e_z1 g_z1 rfl rfl | exact x_rb g_z1 rfl rfl | exact ⟨by omega, by omega⟩), by omega⟩
