theorem E_X3_add_46 (s0 : xS) (hG0 : GI s0) (a : Int) (b_a : 0 ≤ a ∧ a ≤ 999) (b : Int) (b_b : 0 ≤ b ∧ b ≤ 9) (d : Int) (b_d : (-2147483648) ≤ d ∧ d ≤ 2147483647) (p_46_3 : 0 ≤ s0 46 3 ∧ s0 46 3 ≤ 40) : xe none 30 0 (lv_args 0 [.ref 46, vi a, vi b, vi d]) [] s0 0 0 (fun s' v => GI s' ∧ FL [452, 512, 576, 640] s0 s' ∧ ∃ z, v = some (vi z) ∧ ((-1004) ≤ z ∧ z ≤ 39) ∧ ((s0 46 3 ≥ 40 ∧ z = -1004 ∧ s' 46 3 = s0 46 3) ∨ (s0 46 3 < 40 ∧ z = s0 46 3 ∧ s' 46 3 = s0 46 3 + 1))) := by
  have f0 : FL [452, 512, 576, 640] s0 s0 := FL.rf
  show xe none 30 0 [(0, .ref 46), (1, vi a), (2, vi b), (3, vi d)] [] s0 0 0 _
  obtain ⟨z1, e_z1⟩ : ∃ z, z = s0 46 3 := ⟨_, rfl⟩
  have g_z1 : (0 : Int) ≤ s0 46 3 ∧ s0 46 3 ≤ 40 := hG0 46 3
  refine x_A k30_0 (fun _ => rfl) ?_
  refine x_getI k30_1 (f := 3) rfl (q := 46) (n := 4) (kd := 5) ⟨by decide, rfl⟩ (by decide) rfl ?_
  rw [e_z1.symm]
  refine x_istore k30_4 (ls' := [(4, vi z1), (0, .ref 46), (1, vi a), (2, vi b), (3, vi d)]) (by decide) rfl ?_
  refine x_A k30_6 (fun _ => rfl) ?_
  refine x_bipush k30_8 (by decide +kernel) ?_
  refine x_ic_lt k30_10 (t := 17) rfl (by first | exact x_rbe e_z1 g_z1 rfl rfl | exact x_rb g_z1 rfl rfl | exact ⟨by omega, by omega⟩) ⟨by decide, by decide⟩ (fun c2 => ?_) (fun c2 => ?_)
  · skip
    refine x_A k30_17 (fun _ => rfl) ?_
    refine x_getR k30_18 (f := 0) rfl (q := 46) (n := 4) (kd := 5) ⟨by decide, rfl⟩ (q2 := 47) (by decide) rfl ?_
    refine x_A k30_21 (fun _ => rfl) ?_
    refine x_A k30_23 (fun _ => rfl) ?_
    refine x_iast k30_24 (q := 47) (n := 40) ⟨by decide, rfl⟩ (by decide) (by first | exact x_rbel e_z1 g_z1 rfl rfl | exact x_rbl g_z1 rfl rfl | exact ⟨by omega, by omega⟩) ?_
    refine x_nh (fun s3 e_s3 => ?_)
    have hG_s3 : GI s3 := by rw [e_s3]; exact hG0.up (show 0 ≤ a ∧ a ≤ 999 from (by first | exact x_rb b_a rfl rfl | exact ⟨by omega, by omega⟩))
    have f_s3 : FL [452, 512, 576, 640] s0 s3 := by rw [e_s3]; exact f0.up (show 512 ∈ [452, 512, 576, 640] from by decide +kernel)
    have q4 : s3 46 3 = z1 := by rw [e_s3, x_up_q (by decide)]; exact e_z1.symm
    have q5 : s3 47 z1.toNat = a := by rw [e_s3]; exact x_up_same
    refine x_A k30_25 (fun _ => rfl) ?_
    refine x_getR k30_26 (f := 1) rfl (q := 46) (n := 4) (kd := 5) ⟨by decide, rfl⟩ (q2 := 48) (by decide) rfl ?_
    refine x_A k30_29 (fun _ => rfl) ?_
    refine x_A k30_31 (fun _ => rfl) ?_
    refine x_iast k30_32 (q := 48) (n := 40) ⟨by decide, rfl⟩ (by decide) (by first | exact x_rbel e_z1 g_z1 rfl rfl | exact x_rbl g_z1 rfl rfl | exact ⟨by omega, by omega⟩) ?_
    refine x_nh (fun s6 e_s6 => ?_)
    have hG_s6 : GI s6 := by rw [e_s6]; exact hG_s3.up (show 0 ≤ b ∧ b ≤ 9 from (by first | exact x_rb b_b rfl rfl | exact ⟨by omega, by omega⟩))
    have f_s6 : FL [452, 512, 576, 640] s0 s6 := by rw [e_s6]; exact f_s3.up (show 576 ∈ [452, 512, 576, 640] from by decide +kernel)
    have q7 : s6 46 3 = z1 := by rw [e_s6, x_up_q (by decide)]; exact q4
    have q8 : s6 47 z1.toNat = a := by rw [e_s6, x_up_q (by first | decide | omega)]; exact q5
    have q9 : s6 48 z1.toNat = b := by rw [e_s6]; exact x_up_same
    refine x_A k30_33 (fun _ => rfl) ?_
    refine x_getR k30_34 (f := 2) rfl (q := 46) (n := 4) (kd := 5) ⟨by decide, rfl⟩ (q2 := 49) (by decide) rfl ?_
    refine x_A k30_37 (fun _ => rfl) ?_
    refine x_A k30_39 (fun _ => rfl) ?_
    refine x_A k30_40 (fun _ => rfl) ?_
    refine x_callV k30_41 (y := 29) (n := 1) (w0 := 2) (w1 := 1) (as := [vi d]) (rest := [vi z1, .ref 49]) (by decide +kernel) (q := 46) (nq := 4) (kq := 5) ⟨by decide, rfl⟩ rfl rfl rfl rfl (xe_mono (C_X3_has_46 s6 hG_s6 d (by first | exact x_rb b_d rfl rfl | exact ⟨by omega, by omega⟩)) ?_)
    rintro s11 v ⟨h_s11, z10, rfl, hz_z10⟩
    rw [h_s11]
    rcases hz_z10 with ⟨c_z10, e_z10⟩ | ⟨c_z10, e_z10⟩
    · rw [e_z10]
      show xe none 30 44 [(4, vi z1), (0, .ref 46), (1, vi a), (2, vi b), (3, vi d)] [vi 1, vi z1, .ref 49] s6 0 0 _
      refine x_if_eq k30_44 (t := 56) rfl ⟨by decide, by decide⟩ (fun c12 => by exfalso; omega) (fun c12 => ?_)
      refine x_A k30_47 (fun _ => rfl) ?_
      refine x_getR k30_48 (f := 2) rfl (q := 46) (n := 4) (kd := 5) ⟨by decide, rfl⟩ (q2 := 49) (by decide) rfl ?_
      refine x_A k30_51 (fun _ => rfl) ?_
      refine x_iald k30_52 (q := 49) (n := 40) ⟨by decide, rfl⟩ (by decide) (by first | exact x_rbl b_d rfl rfl | exact ⟨by omega, by omega⟩) ?_
      refine x_top (fun z13 e_z13 => ?_)
      have g_z13 : (0 : Int) ≤ s6 49 d.toNat ∧ s6 49 d.toNat ≤ 39 := hG_s6 49 d.toNat
      refine x_goto k30_53 (t := 58) rfl ?_
      refine x_iast k30_58 (q := 49) (n := 40) ⟨by decide, rfl⟩ (by decide) (by first | exact x_rbel e_z1 g_z1 rfl rfl | exact x_rbl g_z1 rfl rfl | exact ⟨by omega, by omega⟩) ?_
      refine x_nh (fun s14 e_s14 => ?_)
      have hG_s14 : GI s14 := by rw [e_s14]; exact hG_s6.up (show 0 ≤ z13 ∧ z13 ≤ 39 from (by first | exact x_rbe e_z13 g_z13 rfl rfl | exact x_rb g_z13 rfl rfl | exact ⟨by omega, by omega⟩))
      have f_s14 : FL [452, 512, 576, 640] s0 s14 := by rw [e_s14]; exact f_s6.up (show 640 ∈ [452, 512, 576, 640] from by decide +kernel)
      have q15 : s14 46 3 = z1 := by rw [e_s14, x_up_q (by decide)]; exact q7
      have q16 : s14 47 z1.toNat = a := by rw [e_s14, x_up_q (by first | decide | omega)]; exact q8
      have q17 : s14 48 z1.toNat = b := by rw [e_s14, x_up_q (by first | decide | omega)]; exact q9
      have q18 : s14 49 z1.toNat = z13 := by rw [e_s14]; exact x_up_same
      refine x_A k30_59 (fun _ => rfl) ?_
      refine x_A k30_60 (fun _ => rfl) ?_
      refine x_getI k30_61 (f := 3) rfl (q := 46) (n := 4) (kd := 5) ⟨by decide, rfl⟩ (by decide) rfl ?_
      rw [q15]
      refine x_A k30_64 (fun _ => rfl) ?_
      refine x_iadd k30_65 ?_
      refine x_top (fun z19 e_z19 => ?_)
      refine x_putI k30_66 (f := 3) rfl (q := 46) (n := 4) (kd := 5) ⟨by decide, rfl⟩ rfl rfl rfl ?_
      refine x_nh (fun s20 e_s20 => ?_)
      have hG_s20 : GI s20 := by rw [e_s20]; exact hG_s14.up (show 0 ≤ z19 ∧ z19 ≤ 40 from (by first | exact x_rbe e_z19 g_z19 rfl rfl | exact x_rb g_z19 rfl rfl | exact ⟨by omega, by omega⟩))
      have f_s20 : FL [452, 512, 576, 640] s0 s20 := by rw [e_s20]; exact f_s14.up (show 452 ∈ [452, 512, 576, 640] from by decide +kernel)
      have q21 : s20 46 3 = z19 := by rw [e_s20]; exact x_up_same
      have q22 : s20 47 z1.toNat = a := by rw [e_s20, x_up_q (by first | decide | omega)]; exact q16
      have q23 : s20 48 z1.toNat = b := by rw [e_s20, x_up_q (by first | decide | omega)]; exact q17
      have q24 : s20 49 z1.toNat = z13 := by rw [e_s20, x_up_q (by first | decide | omega)]; exact q18
      refine x_A k30_69 (fun _ => rfl) ?_
      exact x_iret k30_71 rfl ⟨hG_s20, f_s20, z1, rfl, (by first | exact x_rbe e_z1 g_z1 rfl rfl | exact x_rb g_z1 rfl rfl | exact ⟨by omega, by omega⟩), by omega⟩
    · rw [e_z10]
      show xe none 30 44 [(4, vi z1), (0, .ref 46), (1, vi a), (2, vi b), (3, vi d)] [vi 0, vi z1, .ref 49] s6 0 0 _
      refine x_if_eq k30_44 (t := 56) rfl ⟨by decide, by decide⟩ (fun c25 => ?_) (fun c25 => by exfalso; omega)
      refine x_A k30_56 (fun _ => rfl) ?_
      refine x_iast k30_58 (q := 49) (n := 40) ⟨by decide, rfl⟩ (by decide) (by first | exact x_rbel e_z1 g_z1 rfl rfl | exact x_rbl g_z1 rfl rfl | exact ⟨by omega, by omega⟩) ?_
      refine x_nh (fun s26 e_s26 => ?_)
      have hG_s26 : GI s26 := by rw [e_s26]; exact hG_s6.up (show 0 ≤ z1 ∧ z1 ≤ 39 from (by first | exact x_rbe e_z1 g_z1 rfl rfl | exact x_rb g_z1 rfl rfl | exact ⟨by omega, by omega⟩))
      have f_s26 : FL [452, 512, 576, 640] s0 s26 := by rw [e_s26]; exact f_s6.up (show 640 ∈ [452, 512, 576, 640] from by decide +kernel)
      have q27 : s26 46 3 = z1 := by rw [e_s26, x_up_q (by decide)]; exact q7
      have q28 : s26 47 z1.toNat = a := by rw [e_s26, x_up_q (by first | decide | omega)]; exact q8
      have q29 : s26 48 z1.toNat = b := by rw [e_s26, x_up_q (by first | decide | omega)]; exact q9
      have q30 : s26 49 z1.toNat = z1 := by rw [e_s26]; exact x_up_same
      refine x_A k30_59 (fun _ => rfl) ?_
      refine x_A k30_60 (fun _ => rfl) ?_
      refine x_getI k30_61 (f := 3) rfl (q := 46) (n := 4) (kd := 5) ⟨by decide, rfl⟩ (by decide) rfl ?_
      rw [q27]
      refine x_A k30_64 (fun _ => rfl) ?_
      refine x_iadd k30_65 ?_
      refine x_top (fun z31 e_z31 => ?_)
      refine x_putI k30_66 (f := 3) rfl (q := 46) (n := 4) (kd := 5) ⟨by decide, rfl⟩ rfl rfl rfl ?_
      refine x_nh (fun s32 e_s32 => ?_)
      have hG_s32 : GI s32 := by rw [e_s32]; exact hG_s26.up (show 0 ≤ z31 ∧ z31 ≤ 40 from (by first | exact x_rbe e_z31 g_z31 rfl rfl | exact x_rb g_z31 rfl rfl | exact ⟨by omega, by omega⟩))
      have f_s32 : FL [452, 512, 576, 640] s0 s32 := by rw [e_s32]; exact f_s26.up (show 452 ∈ [452, 512, 576, 640] from by decide +kernel)
      have q33 : s32 46 3 = z31 := by rw [e_s32]; exact x_up_same
      have q34 : s32 47 z1.toNat = a := by rw [e_s32, x_up_q (by first | decide | omega)]; exact q28
      have q35 : s32 48 z1.toNat = b := by rw [e_s32, x_up_q (by first | decide | omega)]; exact q29
      have q36 : s32 49 z1.toNat = z1 := by rw [e_s32, x_up_q (by first | decide | omega)]; exact q30
      refine x_A k30_69 (fun _ => rfl) ?_
      exact x_iret k30_71 rfl ⟨hG_s32, f_s32, z1, rfl, (by first | exact x_rbe e_z1 g_z1 rfl rfl | exact x_rb g_z1 rfl rfl | exact ⟨by omega, by omega⟩), by omega⟩
  · skip
    refine x_sipush k30_13 (by decide +kernel) ?_
    exact x_iret k30_16 rfl ⟨hG0, f0, (-1004), rfl, ⟨by decide, by decide⟩, by omega⟩
theorem E_X10_picture_0 (s0 : xS) (hG0 : GI s0) (a : Int) (b_a : (-2147483648) ≤ a ∧ a ≤ 2147483647) (b : Int) (b_b : (-2147483648) ≤ b ∧ b ≤ 2147483647) (d : Int) (b_d : (-2147483648) ≤ d ∧ d ≤ 2147483647) (p_46_3 : 0 ≤ s0 46 3 ∧ s0 46 3 ≤ 40) : xe none 97 0 (lv_args 0 [.ref 0, vi a, vi b, vi d]) [] s0 0 0 (fun s' v => GI s' ∧ FL [452, 512, 576, 640] s0 s' ∧ ∃ z, v = some (vi z) ∧ ((-1004) ≤ z ∧ z ≤ 39) ∧ ((¬ (d = -1 ∨ (0 ≤ d ∧ d < s0 46 3)) ∧ z = -1001 ∧ s' 46 3 = s0 46 3) ∨ ((d = -1 ∨ (0 ≤ d ∧ d < s0 46 3)) ∧ ¬ (0 ≤ a ∧ a ≤ 999 ∧ 0 ≤ b ∧ b ≤ 9) ∧ z = -1002 ∧ s' 46 3 = s0 46 3) ∨ ((d = -1 ∨ (0 ≤ d ∧ d < s0 46 3)) ∧ (0 ≤ a ∧ a ≤ 999 ∧ 0 ≤ b ∧ b ≤ 9) ∧ s0 46 3 ≥ 40 ∧ z = -1004 ∧ s' 46 3 = s0 46 3) ∨ ((d = -1 ∨ (0 ≤ d ∧ d < s0 46 3)) ∧ (0 ≤ a ∧ a ≤ 999 ∧ 0 ≤ b ∧ b ≤ 9) ∧ s0 46 3 < 40 ∧ z = s0 46 3 ∧ s' 46 3 = s0 46 3 + 1))) := by
  have f0 : FL [452, 512, 576, 640] s0 s0 := FL.rf
  show xe none 97 0 [(0, .ref 0), (1, vi a), (2, vi b), (3, vi d)] [] s0 0 0 _
  obtain ⟨z1, e_z1⟩ : ∃ z, z = s0 46 3 := ⟨_, rfl⟩
  have g_z1 : (0 : Int) ≤ s0 46 3 ∧ s0 46 3 ≤ 40 := hG0 46 3
  refine x_A k97_0 (fun _ => rfl) ?_
  refine x_A k97_1 (fun _ => rfl) ?_
  refine x_ic_eq k97_2 (t := 20) rfl (by first | exact x_rb b_d rfl rfl | exact ⟨by omega, by omega⟩) ⟨by decide, by decide⟩ (fun c2 => ?_) (fun c2 => ?_)
  · skip
    refine x_A k97_20 (fun _ => rfl) ?_
    refine x_callS k97_21 (y := 122) (n := 1) (w0 := 0) (w1 := 1) (as := [vi a]) (rest := []) (by decide +kernel) rfl rfl rfl rfl (xe_mono (C_X10_isYear s0 hG0 a (by first | exact x_rb b_a rfl rfl | exact ⟨by omega, by omega⟩)) ?_)
    rintro s4 v ⟨h_s4, z3, rfl, hz_z3⟩
    rw [h_s4]
    rcases hz_z3 with ⟨c_z3, e_z3⟩ | ⟨c_z3, e_z3⟩
    · rw [e_z3]
      show xe none 97 24 [(0, .ref 0), (1, vi a), (2, vi b), (3, vi d)] [vi 1] s0 0 0 _
      refine x_if_eq k97_24 (t := 37) rfl ⟨by decide, by decide⟩ (fun c5 => by exfalso; omega) (fun c5 => ?_)
      refine x_A k97_27 (fun _ => rfl) ?_
      refine x_A k97_28 (fun _ => rfl) ?_
      refine x_bipush k97_29 (by decide +kernel) ?_
      refine x_callS k97_31 (y := 121) (n := 3) (w0 := 0) (w1 := 3) (as := [vi b, vi 0, vi 9]) (rest := []) (by decide +kernel) rfl rfl rfl rfl (xe_mono (C_X10_isWithin s0 hG0 b (by first | exact x_rb b_b rfl rfl | exact ⟨by omega, by omega⟩) 0 ⟨by decide, by decide⟩ 9 ⟨by decide, by decide⟩) ?_)
      rintro s7 v ⟨h_s7, z6, rfl, hz_z6⟩
      rw [h_s7]
      rcases hz_z6 with ⟨c_z6, e_z6⟩ | ⟨c_z6, e_z6⟩
      · rw [e_z6]
        show xe none 97 34 [(0, .ref 0), (1, vi a), (2, vi b), (3, vi d)] [vi 1] s0 0 0 _
        refine x_if_ne k97_34 (t := 41) rfl ⟨by decide, by decide⟩ (fun c8 => ?_) (fun c8 => by exfalso; omega)
        refine x_A k97_41 (fun _ => rfl) ?_
        refine x_getR k97_42 (f := 1) rfl (q := 0) (n := 12) (kd := 3) ⟨by decide, rfl⟩ (q2 := 46) (by decide) rfl ?_
        refine x_A k97_45 (fun _ => rfl) ?_
        refine x_A k97_46 (fun _ => rfl) ?_
        refine x_A k97_47 (fun _ => rfl) ?_
        refine x_callV k97_48 (y := 30) (n := 3) (w0 := 0) (w1 := 3) (as := [vi a, vi b, vi d]) (rest := []) (by decide +kernel) (q := 46) (nq := 4) (kq := 5) ⟨by decide, rfl⟩ rfl rfl rfl rfl (xe_mono (E_X3_add_46 s0 hG0 a (by first | exact x_rb b_a rfl rfl | exact ⟨by omega, by omega⟩) b (by first | exact x_rb b_b rfl rfl | exact ⟨by omega, by omega⟩) d (by first | exact x_rb b_d rfl rfl | exact ⟨by omega, by omega⟩) ⟨by omega, by omega⟩) ?_)
        rintro s10 v ⟨hG_s10, t_s10, z9, rfl, g_z9, xp_z9⟩
        have f_s10 : FL [452, 512, 576, 640] s0 s10 := f0.tr t_s10 (by decide +kernel)
        obtain ⟨z11, e_z11⟩ : ∃ z, z = s10 46 3 := ⟨_, rfl⟩
        have g_z11 : (0 : Int) ≤ s10 46 3 ∧ s10 46 3 ≤ 40 := hG_s10 46 3
        show xe none 97 51 [(0, .ref 0), (1, vi a), (2, vi b), (3, vi d)] [vi z9] s10 0 0 _
        exact x_iret k97_51 rfl ⟨hG_s10, f_s10, z9, rfl, (by first | exact x_rbe e_z9 g_z9 rfl rfl | exact x_rb g_z9 rfl rfl | exact ⟨by omega, by omega⟩), by omega⟩
      · rw [e_z6]
        show xe none 97 34 [(0, .ref 0), (1, vi a), (2, vi b), (3, vi d)] [vi 0] s0 0 0 _
        refine x_if_ne k97_34 (t := 41) rfl ⟨by decide, by decide⟩ (fun c12 => by exfalso; omega) (fun c12 => ?_)
        refine x_sipush k97_37 (by decide +kernel) ?_
        exact x_iret k97_40 rfl ⟨hG0, f0, (-1002), rfl, ⟨by decide, by decide⟩, by omega⟩
    · rw [e_z3]
      show xe none 97 24 [(0, .ref 0), (1, vi a), (2, vi b), (3, vi d)] [vi 0] s0 0 0 _
      refine x_if_eq k97_24 (t := 37) rfl ⟨by decide, by decide⟩ (fun c13 => ?_) (fun c13 => by exfalso; omega)
      refine x_sipush k97_37 (by decide +kernel) ?_
      exact x_iret k97_40 rfl ⟨hG0, f0, (-1002), rfl, ⟨by decide, by decide⟩, by omega⟩
  · skip
    refine x_A k97_5 (fun _ => rfl) ?_
    refine x_getR k97_6 (f := 1) rfl (q := 0) (n := 12) (kd := 3) ⟨by decide, rfl⟩ (q2 := 46) (by decide) rfl ?_
    refine x_A k97_9 (fun _ => rfl) ?_
    refine x_callV k97_10 (y := 29) (n := 1) (w0 := 0) (w1 := 1) (as := [vi d]) (rest := []) (by decide +kernel) (q := 46) (nq := 4) (kq := 5) ⟨by decide, rfl⟩ rfl rfl rfl rfl (xe_mono (C_X3_has_46 s0 hG0 d (by first | exact x_rb b_d rfl rfl | exact ⟨by omega, by omega⟩)) ?_)
    rintro s15 v ⟨h_s15, z14, rfl, hz_z14⟩
    rw [h_s15]
    rcases hz_z14 with ⟨c_z14, e_z14⟩ | ⟨c_z14, e_z14⟩
    · rw [e_z14]
      show xe none 97 13 [(0, .ref 0), (1, vi a), (2, vi b), (3, vi d)] [vi 1] s0 0 0 _
      refine x_if_ne k97_13 (t := 20) rfl ⟨by decide, by decide⟩ (fun c16 => ?_) (fun c16 => by exfalso; omega)
      refine x_A k97_20 (fun _ => rfl) ?_
      refine x_callS k97_21 (y := 122) (n := 1) (w0 := 0) (w1 := 1) (as := [vi a]) (rest := []) (by decide +kernel) rfl rfl rfl rfl (xe_mono (C_X10_isYear s0 hG0 a (by first | exact x_rb b_a rfl rfl | exact ⟨by omega, by omega⟩)) ?_)
      rintro s18 v ⟨h_s18, z17, rfl, hz_z17⟩
      rw [h_s18]
      rcases hz_z17 with ⟨c_z17, e_z17⟩ | ⟨c_z17, e_z17⟩
      · rw [e_z17]
        show xe none 97 24 [(0, .ref 0), (1, vi a), (2, vi b), (3, vi d)] [vi 1] s0 0 0 _
        refine x_if_eq k97_24 (t := 37) rfl ⟨by decide, by decide⟩ (fun c19 => by exfalso; omega) (fun c19 => ?_)
        refine x_A k97_27 (fun _ => rfl) ?_
        refine x_A k97_28 (fun _ => rfl) ?_
        refine x_bipush k97_29 (by decide +kernel) ?_
        refine x_callS k97_31 (y := 121) (n := 3) (w0 := 0) (w1 := 3) (as := [vi b, vi 0, vi 9]) (rest := []) (by decide +kernel) rfl rfl rfl rfl (xe_mono (C_X10_isWithin s0 hG0 b (by first | exact x_rb b_b rfl rfl | exact ⟨by omega, by omega⟩) 0 ⟨by decide, by decide⟩ 9 ⟨by decide, by decide⟩) ?_)
        rintro s21 v ⟨h_s21, z20, rfl, hz_z20⟩
        rw [h_s21]
        rcases hz_z20 with ⟨c_z20, e_z20⟩ | ⟨c_z20, e_z20⟩
        · rw [e_z20]
          show xe none 97 34 [(0, .ref 0), (1, vi a), (2, vi b), (3, vi d)] [vi 1] s0 0 0 _
          refine x_if_ne k97_34 (t := 41) rfl ⟨by decide, by decide⟩ (fun c22 => ?_) (fun c22 => by exfalso; omega)
          refine x_A k97_41 (fun _ => rfl) ?_
          refine x_getR k97_42 (f := 1) rfl (q := 0) (n := 12) (kd := 3) ⟨by decide, rfl⟩ (q2 := 46) (by decide) rfl ?_
          refine x_A k97_45 (fun _ => rfl) ?_
          refine x_A k97_46 (fun _ => rfl) ?_
          refine x_A k97_47 (fun _ => rfl) ?_
          refine x_callV k97_48 (y := 30) (n := 3) (w0 := 0) (w1 := 3) (as := [vi a, vi b, vi d]) (rest := []) (by decide +kernel) (q := 46) (nq := 4) (kq := 5) ⟨by decide, rfl⟩ rfl rfl rfl rfl (xe_mono (E_X3_add_46 s0 hG0 a (by first | exact x_rb b_a rfl rfl | exact ⟨by omega, by omega⟩) b (by first | exact x_rb b_b rfl rfl | exact ⟨by omega, by omega⟩) d (by first | exact x_rb b_d rfl rfl | exact ⟨by omega, by omega⟩) ⟨by omega, by omega⟩) ?_)
          rintro s24 v ⟨hG_s24, t_s24, z23, rfl, g_z23, xp_z23⟩
          have f_s24 : FL [452, 512, 576, 640] s0 s24 := f0.tr t_s24 (by decide +kernel)
          obtain ⟨z25, e_z25⟩ : ∃ z, z = s24 46 3 := ⟨_, rfl⟩
          have g_z25 : (0 : Int) ≤ s24 46 3 ∧ s24 46 3 ≤ 40 := hG_s24 46 3
          show xe none 97 51 [(0, .ref 0), (1, vi a), (2, vi b), (3, vi d)] [vi z23] s24 0 0 _
          exact x_iret k97_51 rfl ⟨hG_s24, f_s24, z23, rfl, (by first | exact x_rbe e_z23 g_z23 rfl rfl | exact x_rb g_z23 rfl rfl | exact ⟨by omega, by omega⟩), by omega⟩
        · rw [e_z20]
          show xe none 97 34 [(0, .ref 0), (1, vi a), (2, vi b), (3, vi d)] [vi 0] s0 0 0 _
          refine x_if_ne k97_34 (t := 41) rfl ⟨by decide, by decide⟩ (fun c26 => by exfalso; omega) (fun c26 => ?_)
          refine x_sipush k97_37 (by decide +kernel) ?_
          exact x_iret k97_40 rfl ⟨hG0, f0, (-1002), rfl, ⟨by decide, by decide⟩, by omega⟩
      · rw [e_z17]
        show xe none 97 24 [(0, .ref 0), (1, vi a), (2, vi b), (3, vi d)] [vi 0] s0 0 0 _
        refine x_if_eq k97_24 (t := 37) rfl ⟨by decide, by decide⟩ (fun c27 => ?_) (fun c27 => by exfalso; omega)
        refine x_sipush k97_37 (by decide +kernel) ?_
        exact x_iret k97_40 rfl ⟨hG0, f0, (-1002), rfl, ⟨by decide, by decide⟩, by omega⟩
    · rw [e_z14]
      show xe none 97 13 [(0, .ref 0), (1, vi a), (2, vi b), (3, vi d)] [vi 0] s0 0 0 _
      refine x_if_ne k97_13 (t := 20) rfl ⟨by decide, by decide⟩ (fun c28 => by exfalso; omega) (fun c28 => ?_)
      refine x_sipush k97_16 (by decide +kernel) ?_
      exact x_iret k97_19 rfl ⟨hG0, f0, (-1001), rfl, ⟨by decide, by decide⟩, by omega⟩
theorem E_X11_picture_256 (s0 : xS) (hG0 : GI s0) (a : Int) (b_a : (-2147483648) ≤ a ∧ a ≤ 2147483647) (b : Int) (b_b : (-2147483648) ≤ b ∧ b ≤ 2147483647) (d : Int) (b_d : (-2147483648) ≤ d ∧ d ≤ 2147483647) (p_256_6 : 0 ≤ s0 256 6 ∧ s0 256 6 ≤ 40) (i0_J : J s0) : xe none 154 0 (lv_args 0 [.ref 256, vi a, vi b, vi d]) [] s0 0 0 (fun s' v => GI s' ∧ FL [4103, 4416, 4480, 4544] s0 s' ∧ ∃ z, v = some (vi z) ∧ ((-1004) ≤ z ∧ z ≤ 39) ∧ ((¬ (d = -1 ∨ (0 ≤ d ∧ d < s0 256 6)) ∧ z = -1001 ∧ s' 256 6 = s0 256 6) ∨ ((d = -1 ∨ (0 ≤ d ∧ d < s0 256 6)) ∧ ¬ (0 ≤ a ∧ a ≤ 999 ∧ 0 ≤ b ∧ b ≤ 9) ∧ z = -1002 ∧ s' 256 6 = s0 256 6) ∨ ((d = -1 ∨ (0 ≤ d ∧ d < s0 256 6)) ∧ (0 ≤ a ∧ a ≤ 999 ∧ 0 ≤ b ∧ b ≤ 9) ∧ s0 256 6 ≥ 40 ∧ z = -1004 ∧ s' 256 6 = s0 256 6) ∨ ((d = -1 ∨ (0 ≤ d ∧ d < s0 256 6)) ∧ (0 ≤ a ∧ a ≤ 999 ∧ 0 ≤ b ∧ b ≤ 9) ∧ s0 256 6 < 40 ∧ z = s0 256 6 ∧ s' 256 6 = s0 256 6 + 1)) ∧ J s') := by
  have f0 : FL [4103, 4416, 4480, 4544] s0 s0 := FL.rf
  show xe none 154 0 [(0, .ref 256), (1, vi a), (2, vi b), (3, vi d)] [] s0 0 0 _
  obtain ⟨z1, e_z1⟩ : ∃ z, z = s0 256 6 := ⟨_, rfl⟩
  have g_z1 : (0 : Int) ≤ s0 256 6 ∧ s0 256 6 ≤ 40 := hG0 256 6
  refine x_A k154_0 (fun _ => rfl) ?_
  refine x_A k154_1 (fun _ => rfl) ?_
  refine x_ic_eq k154_2 (t := 17) rfl (by first | exact x_rb b_d rfl rfl | exact ⟨by omega, by omega⟩) ⟨by decide, by decide⟩ (fun c2 => ?_) (fun c2 => ?_)
  · skip
    refine x_A k154_17 (fun _ => rfl) ?_
    refine x_i2l k154_18 (by first | exact x_rb b_a rfl rfl | exact ⟨by omega, by omega⟩) ?_
    refine x_lconst k154_19 (z := 0) (by decide +kernel) ?_
    refine x_ldc2 k154_20 (z := 999) rfl (by decide +kernel) ?_
    refine x_callS k154_23 (y := 136) (n := 3) (w0 := 0) (w1 := 6) (as := [vj a, vj 0, vj 999]) (rest := []) (by decide +kernel) rfl rfl rfl rfl (xe_mono (C_X11_in s0 hG0 a ⟨by omega, by omega⟩ 0 ⟨by omega, by omega⟩ 999 ⟨by omega, by omega⟩) ?_)
    rintro s4 v ⟨h_s4, z3, rfl, hz_z3⟩
    rw [h_s4]
    rcases hz_z3 with ⟨c_z3, e_z3⟩ | ⟨c_z3, e_z3⟩
    · rw [e_z3]
      show xe none 154 26 [(0, .ref 256), (1, vi a), (2, vi b), (3, vi d)] [vi 1] s0 0 0 _
      refine x_if_eq k154_26 (t := 41) rfl ⟨by decide, by decide⟩ (fun c5 => by exfalso; omega) (fun c5 => ?_)
      refine x_A k154_29 (fun _ => rfl) ?_
      refine x_i2l k154_30 (by first | exact x_rb b_b rfl rfl | exact ⟨by omega, by omega⟩) ?_
      refine x_lconst k154_31 (z := 0) (by decide +kernel) ?_
      refine x_ldc2 k154_32 (z := 9) rfl (by decide +kernel) ?_
      refine x_callS k154_35 (y := 136) (n := 3) (w0 := 0) (w1 := 6) (as := [vj b, vj 0, vj 9]) (rest := []) (by decide +kernel) rfl rfl rfl rfl (xe_mono (C_X11_in s0 hG0 b ⟨by omega, by omega⟩ 0 ⟨by omega, by omega⟩ 9 ⟨by omega, by omega⟩) ?_)
      rintro s7 v ⟨h_s7, z6, rfl, hz_z6⟩
      rw [h_s7]
      rcases hz_z6 with ⟨c_z6, e_z6⟩ | ⟨c_z6, e_z6⟩
      · rw [e_z6]
        show xe none 154 38 [(0, .ref 256), (1, vi a), (2, vi b), (3, vi d)] [vi 1] s0 0 0 _
        refine x_if_ne k154_38 (t := 45) rfl ⟨by decide, by decide⟩ (fun c8 => ?_) (fun c8 => by exfalso; omega)
        refine x_A k154_45 (fun _ => rfl) ?_
        refine x_getI k154_46 (f := 6) rfl (q := 256) (n := 62) (kd := 15) ⟨by decide, rfl⟩ (by decide) rfl ?_
        rw [e_z1.symm]
        refine x_bipush k154_49 (by decide +kernel) ?_
        refine x_ic_ne k154_51 (t := 58) rfl (by first | exact x_rbe e_z1 g_z1 rfl rfl | exact x_rb g_z1 rfl rfl | exact ⟨by omega, by omega⟩) ⟨by decide, by decide⟩ (fun c9 => ?_) (fun c9 => ?_)
        · skip
          refine x_A k154_58 (fun _ => rfl) ?_
          refine x_getR k154_59 (f := 7) rfl (q := 256) (n := 62) (kd := 15) ⟨by decide, rfl⟩ (q2 := 261) (by decide) rfl ?_
          refine x_A k154_62 (fun _ => rfl) ?_
          refine x_getI k154_63 (f := 6) rfl (q := 256) (n := 62) (kd := 15) ⟨by decide, rfl⟩ (by decide) rfl ?_
          rw [e_z1.symm]
          refine x_A k154_66 (fun _ => rfl) ?_
          refine x_iast k154_67 (q := 261) (n := 40) ⟨by decide, rfl⟩ (by decide) (by first | exact x_rbel e_z1 g_z1 rfl rfl | exact x_rbl g_z1 rfl rfl | exact ⟨by omega, by omega⟩) ?_
          refine x_nh (fun s10 e_s10 => ?_)
          have hG_s10 : GI s10 := by rw [e_s10]; exact hG0.up (show 0 ≤ a ∧ a ≤ 999 from (by first | exact x_rb b_a rfl rfl | exact ⟨by omega, by omega⟩))
          have f_s10 : FL [4103, 4416, 4480, 4544] s0 s10 := by rw [e_s10]; exact f0.up (show 4416 ∈ [4103, 4416, 4480, 4544] from by decide +kernel)
          have q11 : s10 256 6 = z1 := by rw [e_s10, x_up_q (by decide)]; exact e_z1.symm
          have q12 : s10 261 z1.toNat = a := by rw [e_s10]; exact x_up_same
          have J_s10 : J s10 := by rw [e_s10]; exact J.up i0_J (show 4416 ∉ LJ from by decide)
          refine x_A k154_68 (fun _ => rfl) ?_
          refine x_getR k154_69 (f := 8) rfl (q := 256) (n := 62) (kd := 15) ⟨by decide, rfl⟩ (q2 := 262) (by decide) rfl ?_
          refine x_A k154_72 (fun _ => rfl) ?_
          refine x_getI k154_73 (f := 6) rfl (q := 256) (n := 62) (kd := 15) ⟨by decide, rfl⟩ (by decide) rfl ?_
          rw [q11]
          refine x_A k154_76 (fun _ => rfl) ?_
          refine x_iast k154_77 (q := 262) (n := 40) ⟨by decide, rfl⟩ (by decide) (by first | exact x_rbel e_z1 g_z1 rfl rfl | exact x_rbl g_z1 rfl rfl | exact ⟨by omega, by omega⟩) ?_
          refine x_nh (fun s13 e_s13 => ?_)
          have hG_s13 : GI s13 := by rw [e_s13]; exact hG_s10.up (show 0 ≤ b ∧ b ≤ 9 from (by first | exact x_rb b_b rfl rfl | exact ⟨by omega, by omega⟩))
          have f_s13 : FL [4103, 4416, 4480, 4544] s0 s13 := by rw [e_s13]; exact f_s10.up (show 4480 ∈ [4103, 4416, 4480, 4544] from by decide +kernel)
          have q14 : s13 256 6 = z1 := by rw [e_s13, x_up_q (by decide)]; exact q11
          have q15 : s13 261 z1.toNat = a := by rw [e_s13, x_up_q (by first | decide | omega)]; exact q12
          have q16 : s13 262 z1.toNat = b := by rw [e_s13]; exact x_up_same
          have J_s13 : J s13 := by rw [e_s13]; exact J.up J_s10 (show 4480 ∉ LJ from by decide)
          refine x_A k154_78 (fun _ => rfl) ?_
          refine x_getR k154_79 (f := 9) rfl (q := 256) (n := 62) (kd := 15) ⟨by decide, rfl⟩ (q2 := 263) (by decide) rfl ?_
          refine x_A k154_82 (fun _ => rfl) ?_
          refine x_getI k154_83 (f := 6) rfl (q := 256) (n := 62) (kd := 15) ⟨by decide, rfl⟩ (by decide) rfl ?_
          rw [q14]
          refine x_A k154_86 (fun _ => rfl) ?_
          refine x_iast k154_87 (q := 263) (n := 40) ⟨by decide, rfl⟩ (by decide) (by first | exact x_rbel e_z1 g_z1 rfl rfl | exact x_rbl g_z1 rfl rfl | exact ⟨by omega, by omega⟩) ?_
          refine x_nh (fun s17 e_s17 => ?_)
          have hG_s17 : GI s17 := by rw [e_s17]; exact hG_s13.up (show (-1) ≤ d ∧ d ≤ 39 from (by first | exact x_rb b_d rfl rfl | exact ⟨by omega, by omega⟩))
          have f_s17 : FL [4103, 4416, 4480, 4544] s0 s17 := by rw [e_s17]; exact f_s13.up (show 4544 ∈ [4103, 4416, 4480, 4544] from by decide +kernel)
          have q18 : s17 256 6 = z1 := by rw [e_s17, x_up_q (by decide)]; exact q14
          have q19 : s17 261 z1.toNat = a := by rw [e_s17, x_up_q (by first | decide | omega)]; exact q15
          have q20 : s17 262 z1.toNat = b := by rw [e_s17, x_up_q (by first | decide | omega)]; exact q16
          have q21 : s17 263 z1.toNat = d := by rw [e_s17]; exact x_up_same
          refine x_A k154_88 (fun _ => rfl) ?_
          refine x_A k154_89 (fun _ => rfl) ?_
          refine x_getI k154_90 (f := 6) rfl (q := 256) (n := 62) (kd := 15) ⟨by decide, rfl⟩ (by decide) rfl ?_
          rw [q18]
          refine x_A k154_93 (fun _ => rfl) ?_
          refine x_iadd k154_94 ?_
          refine x_top (fun z22 e_z22 => ?_)
          refine x_putI k154_95 (f := 6) rfl (q := 256) (n := 62) (kd := 15) ⟨by decide, rfl⟩ rfl rfl rfl ?_
          refine x_nh (fun s23 e_s23 => ?_)
          have hG_s23 : GI s23 := by rw [e_s23]; exact hG_s17.up (show 0 ≤ z22 ∧ z22 ≤ 40 from (by first | exact x_rbe e_z22 g_z22 rfl rfl | exact x_rb g_z22 rfl rfl | exact ⟨by omega, by omega⟩))
          have f_s23 : FL [4103, 4416, 4480, 4544] s0 s23 := by rw [e_s23]; exact f_s17.up (show 4103 ∈ [4103, 4416, 4480, 4544] from by decide +kernel)
          have q24 : s23 256 6 = z22 := by rw [e_s23]; exact x_up_same
          have q25 : s23 261 z1.toNat = a := by rw [e_s23, x_up_q (by first | decide | omega)]; exact q19
          have q26 : s23 262 z1.toNat = b := by rw [e_s23, x_up_q (by first | decide | omega)]; exact q20
          have q27 : s23 263 z1.toNat = d := by rw [e_s23, x_up_q (by first | decide | omega)]; exact q21
          have J_p : J s23 := by rw [e_s23, e_s17, e_s13, e_s10]; exact J.pict i0_J e_z1 ⟨by omega, by omega⟩ (by omega) (by omega)
          refine x_A k154_98 (fun _ => rfl) ?_
          refine x_getI k154_99 (f := 6) rfl (q := 256) (n := 62) (kd := 15) ⟨by decide, rfl⟩ (by decide) rfl ?_
          rw [q24]
          refine x_A k154_102 (fun _ => rfl) ?_
          refine x_isub k154_103 ?_
          refine x_top (fun z28 e_z28 => ?_)
          exact x_iret k154_104 rfl ⟨hG_s23, f_s23, z28, rfl, (by first | exact x_rbe e_z28 g_z28 rfl rfl | exact x_rb g_z28 rfl rfl | exact ⟨by omega, by omega⟩), by omega, J_p⟩
        · skip
          refine x_sipush k154_54 (by decide +kernel) ?_
          exact x_iret k154_57 rfl ⟨hG0, f0, (-1004), rfl, ⟨by decide, by decide⟩, by omega, i0_J⟩
      · rw [e_z6]
        show xe none 154 38 [(0, .ref 256), (1, vi a), (2, vi b), (3, vi d)] [vi 0] s0 0 0 _
        refine x_if_ne k154_38 (t := 45) rfl ⟨by decide, by decide⟩ (fun c29 => by exfalso; omega) (fun c29 => ?_)
        refine x_sipush k154_41 (by decide +kernel) ?_
        exact x_iret k154_44 rfl ⟨hG0, f0, (-1002), rfl, ⟨by decide, by decide⟩, by omega, i0_J⟩
    · rw [e_z3]
      show xe none 154 26 [(0, .ref 256), (1, vi a), (2, vi b), (3, vi d)] [vi 0] s0 0 0 _
      refine x_if_eq k154_26 (t := 41) rfl ⟨by decide, by decide⟩ (fun c30 => ?_) (fun c30 => by exfalso; omega)
      refine x_sipush k154_41 (by decide +kernel) ?_
      exact x_iret k154_44 rfl ⟨hG0, f0, (-1002), rfl, ⟨by decide, by decide⟩, by omega, i0_J⟩
  · skip
    refine x_A k154_5 (fun _ => rfl) ?_
    refine x_A k154_6 (fun _ => rfl) ?_
    refine x_callV k154_7 (y := 151) (n := 1) (w0 := 0) (w1 := 1) (as := [vi d]) (rest := []) (by decide +kernel) (q := 256) (nq := 62) (kq := 15) ⟨by decide, rfl⟩ rfl rfl rfl rfl (xe_mono (C_X11_isPicture_256 s0 hG0 d (by first | exact x_rb b_d rfl rfl | exact ⟨by omega, by omega⟩)) ?_)
    rintro s32 v ⟨h_s32, z31, rfl, hz_z31⟩
    rw [h_s32]
    rcases hz_z31 with ⟨c_z31, e_z31⟩ | ⟨c_z31, e_z31⟩
    · rw [e_z31]
      show xe none 154 10 [(0, .ref 256), (1, vi a), (2, vi b), (3, vi d)] [vi 1] s0 0 0 _
      refine x_if_ne k154_10 (t := 17) rfl ⟨by decide, by decide⟩ (fun c33 => ?_) (fun c33 => by exfalso; omega)
      refine x_A k154_17 (fun _ => rfl) ?_
      refine x_i2l k154_18 (by first | exact x_rb b_a rfl rfl | exact ⟨by omega, by omega⟩) ?_
      refine x_lconst k154_19 (z := 0) (by decide +kernel) ?_
      refine x_ldc2 k154_20 (z := 999) rfl (by decide +kernel) ?_
      refine x_callS k154_23 (y := 136) (n := 3) (w0 := 0) (w1 := 6) (as := [vj a, vj 0, vj 999]) (rest := []) (by decide +kernel) rfl rfl rfl rfl (xe_mono (C_X11_in s0 hG0 a ⟨by omega, by omega⟩ 0 ⟨by omega, by omega⟩ 999 ⟨by omega, by omega⟩) ?_)
      rintro s35 v ⟨h_s35, z34, rfl, hz_z34⟩
      rw [h_s35]
      rcases hz_z34 with ⟨c_z34, e_z34⟩ | ⟨c_z34, e_z34⟩
      · rw [e_z34]
        show xe none 154 26 [(0, .ref 256), (1, vi a), (2, vi b), (3, vi d)] [vi 1] s0 0 0 _
        refine x_if_eq k154_26 (t := 41) rfl ⟨by decide, by decide⟩ (fun c36 => by exfalso; omega) (fun c36 => ?_)
        refine x_A k154_29 (fun _ => rfl) ?_
        refine x_i2l k154_30 (by first | exact x_rb b_b rfl rfl | exact ⟨by omega, by omega⟩) ?_
        refine x_lconst k154_31 (z := 0) (by decide +kernel) ?_
        refine x_ldc2 k154_32 (z := 9) rfl (by decide +kernel) ?_
        refine x_callS k154_35 (y := 136) (n := 3) (w0 := 0) (w1 := 6) (as := [vj b, vj 0, vj 9]) (rest := []) (by decide +kernel) rfl rfl rfl rfl (xe_mono (C_X11_in s0 hG0 b ⟨by omega, by omega⟩ 0 ⟨by omega, by omega⟩ 9 ⟨by omega, by omega⟩) ?_)
        rintro s38 v ⟨h_s38, z37, rfl, hz_z37⟩
        rw [h_s38]
        rcases hz_z37 with ⟨c_z37, e_z37⟩ | ⟨c_z37, e_z37⟩
        · rw [e_z37]
          show xe none 154 38 [(0, .ref 256), (1, vi a), (2, vi b), (3, vi d)] [vi 1] s0 0 0 _
          refine x_if_ne k154_38 (t := 45) rfl ⟨by decide, by decide⟩ (fun c39 => ?_) (fun c39 => by exfalso; omega)
          refine x_A k154_45 (fun _ => rfl) ?_
          refine x_getI k154_46 (f := 6) rfl (q := 256) (n := 62) (kd := 15) ⟨by decide, rfl⟩ (by decide) rfl ?_
          rw [e_z1.symm]
          refine x_bipush k154_49 (by decide +kernel) ?_
          refine x_ic_ne k154_51 (t := 58) rfl (by first | exact x_rbe e_z1 g_z1 rfl rfl | exact x_rb g_z1 rfl rfl | exact ⟨by omega, by omega⟩) ⟨by decide, by decide⟩ (fun c40 => ?_) (fun c40 => ?_)
          · skip
            refine x_A k154_58 (fun _ => rfl) ?_
            refine x_getR k154_59 (f := 7) rfl (q := 256) (n := 62) (kd := 15) ⟨by decide, rfl⟩ (q2 := 261) (by decide) rfl ?_
            refine x_A k154_62 (fun _ => rfl) ?_
            refine x_getI k154_63 (f := 6) rfl (q := 256) (n := 62) (kd := 15) ⟨by decide, rfl⟩ (by decide) rfl ?_
            rw [e_z1.symm]
            refine x_A k154_66 (fun _ => rfl) ?_
            refine x_iast k154_67 (q := 261) (n := 40) ⟨by decide, rfl⟩ (by decide) (by first | exact x_rbel e_z1 g_z1 rfl rfl | exact x_rbl g_z1 rfl rfl | exact ⟨by omega, by omega⟩) ?_
            refine x_nh (fun s41 e_s41 => ?_)
            have hG_s41 : GI s41 := by rw [e_s41]; exact hG0.up (show 0 ≤ a ∧ a ≤ 999 from (by first | exact x_rb b_a rfl rfl | exact ⟨by omega, by omega⟩))
            have f_s41 : FL [4103, 4416, 4480, 4544] s0 s41 := by rw [e_s41]; exact f0.up (show 4416 ∈ [4103, 4416, 4480, 4544] from by decide +kernel)
            have q42 : s41 256 6 = z1 := by rw [e_s41, x_up_q (by decide)]; exact e_z1.symm
            have q43 : s41 261 z1.toNat = a := by rw [e_s41]; exact x_up_same
            have J_s41 : J s41 := by rw [e_s41]; exact J.up i0_J (show 4416 ∉ LJ from by decide)
            refine x_A k154_68 (fun _ => rfl) ?_
            refine x_getR k154_69 (f := 8) rfl (q := 256) (n := 62) (kd := 15) ⟨by decide, rfl⟩ (q2 := 262) (by decide) rfl ?_
            refine x_A k154_72 (fun _ => rfl) ?_
            refine x_getI k154_73 (f := 6) rfl (q := 256) (n := 62) (kd := 15) ⟨by decide, rfl⟩ (by decide) rfl ?_
            rw [q42]
            refine x_A k154_76 (fun _ => rfl) ?_
            refine x_iast k154_77 (q := 262) (n := 40) ⟨by decide, rfl⟩ (by decide) (by first | exact x_rbel e_z1 g_z1 rfl rfl | exact x_rbl g_z1 rfl rfl | exact ⟨by omega, by omega⟩) ?_
            refine x_nh (fun s44 e_s44 => ?_)
            have hG_s44 : GI s44 := by rw [e_s44]; exact hG_s41.up (show 0 ≤ b ∧ b ≤ 9 from (by first | exact x_rb b_b rfl rfl | exact ⟨by omega, by omega⟩))
            have f_s44 : FL [4103, 4416, 4480, 4544] s0 s44 := by rw [e_s44]; exact f_s41.up (show 4480 ∈ [4103, 4416, 4480, 4544] from by decide +kernel)
            have q45 : s44 256 6 = z1 := by rw [e_s44, x_up_q (by decide)]; exact q42
            have q46 : s44 261 z1.toNat = a := by rw [e_s44, x_up_q (by first | decide | omega)]; exact q43
            have q47 : s44 262 z1.toNat = b := by rw [e_s44]; exact x_up_same
            have J_s44 : J s44 := by rw [e_s44]; exact J.up J_s41 (show 4480 ∉ LJ from by decide)
            refine x_A k154_78 (fun _ => rfl) ?_
            refine x_getR k154_79 (f := 9) rfl (q := 256) (n := 62) (kd := 15) ⟨by decide, rfl⟩ (q2 := 263) (by decide) rfl ?_
            refine x_A k154_82 (fun _ => rfl) ?_
            refine x_getI k154_83 (f := 6) rfl (q := 256) (n := 62) (kd := 15) ⟨by decide, rfl⟩ (by decide) rfl ?_
            rw [q45]
            refine x_A k154_86 (fun _ => rfl) ?_
            refine x_iast k154_87 (q := 263) (n := 40) ⟨by decide, rfl⟩ (by decide) (by first | exact x_rbel e_z1 g_z1 rfl rfl | exact x_rbl g_z1 rfl rfl | exact ⟨by omega, by omega⟩) ?_
            refine x_nh (fun s48 e_s48 => ?_)
            have hG_s48 : GI s48 := by rw [e_s48]; exact hG_s44.up (show (-1) ≤ d ∧ d ≤ 39 from (by first | exact x_rb b_d rfl rfl | exact ⟨by omega, by omega⟩))
            have f_s48 : FL [4103, 4416, 4480, 4544] s0 s48 := by rw [e_s48]; exact f_s44.up (show 4544 ∈ [4103, 4416, 4480, 4544] from by decide +kernel)
            have q49 : s48 256 6 = z1 := by rw [e_s48, x_up_q (by decide)]; exact q45
            have q50 : s48 261 z1.toNat = a := by rw [e_s48, x_up_q (by first | decide | omega)]; exact q46
            have q51 : s48 262 z1.toNat = b := by rw [e_s48, x_up_q (by first | decide | omega)]; exact q47
            have q52 : s48 263 z1.toNat = d := by rw [e_s48]; exact x_up_same
            refine x_A k154_88 (fun _ => rfl) ?_
            refine x_A k154_89 (fun _ => rfl) ?_
            refine x_getI k154_90 (f := 6) rfl (q := 256) (n := 62) (kd := 15) ⟨by decide, rfl⟩ (by decide) rfl ?_
            rw [q49]
            refine x_A k154_93 (fun _ => rfl) ?_
            refine x_iadd k154_94 ?_
            refine x_top (fun z53 e_z53 => ?_)
            refine x_putI k154_95 (f := 6) rfl (q := 256) (n := 62) (kd := 15) ⟨by decide, rfl⟩ rfl rfl rfl ?_
            refine x_nh (fun s54 e_s54 => ?_)
            have hG_s54 : GI s54 := by rw [e_s54]; exact hG_s48.up (show 0 ≤ z53 ∧ z53 ≤ 40 from (by first | exact x_rbe e_z53 g_z53 rfl rfl | exact x_rb g_z53 rfl rfl | exact ⟨by omega, by omega⟩))
            have f_s54 : FL [4103, 4416, 4480, 4544] s0 s54 := by rw [e_s54]; exact f_s48.up (show 4103 ∈ [4103, 4416, 4480, 4544] from by decide +kernel)
            have q55 : s54 256 6 = z53 := by rw [e_s54]; exact x_up_same
            have q56 : s54 261 z1.toNat = a := by rw [e_s54, x_up_q (by first | decide | omega)]; exact q50
            have q57 : s54 262 z1.toNat = b := by rw [e_s54, x_up_q (by first | decide | omega)]; exact q51
            have q58 : s54 263 z1.toNat = d := by rw [e_s54, x_up_q (by first | decide | omega)]; exact q52
            have J_p : J s54 := by rw [e_s54, e_s48, e_s44, e_s41]; exact J.pict i0_J e_z1 ⟨by omega, by omega⟩ (by omega) (by omega)
            refine x_A k154_98 (fun _ => rfl) ?_
            refine x_getI k154_99 (f := 6) rfl (q := 256) (n := 62) (kd := 15) ⟨by decide, rfl⟩ (by decide) rfl ?_
            rw [q55]
            refine x_A k154_102 (fun _ => rfl) ?_
            refine x_isub k154_103 ?_
            refine x_top (fun z59 e_z59 => ?_)
            exact x_iret k154_104 rfl ⟨hG_s54, f_s54, z59, rfl, (by first | exact x_rbe e_z59 g_z59 rfl rfl | exact x_rb g_z59 rfl rfl | exact ⟨by omega, by omega⟩), by omega, J_p⟩
          · skip
            refine x_sipush k154_54 (by decide +kernel) ?_
            exact x_iret k154_57 rfl ⟨hG0, f0, (-1004), rfl, ⟨by decide, by decide⟩, by omega, i0_J⟩
        · rw [e_z37]
          show xe none 154 38 [(0, .ref 256), (1, vi a), (2, vi b), (3, vi d)] [vi 0] s0 0 0 _
          refine x_if_ne k154_38 (t := 45) rfl ⟨by decide, by decide⟩ (fun c60 => by exfalso; omega) (fun c60 => ?_)
          refine x_sipush k154_41 (by decide +kernel) ?_
          exact x_iret k154_44 rfl ⟨hG0, f0, (-1002), rfl, ⟨by decide, by decide⟩, by omega, i0_J⟩
      · rw [e_z34]
        show xe none 154 26 [(0, .ref 256), (1, vi a), (2, vi b), (3, vi d)] [vi 0] s0 0 0 _
        refine x_if_eq k154_26 (t := 41) rfl ⟨by decide, by decide⟩ (fun c61 => ?_) (fun c61 => by exfalso; omega)
        refine x_sipush k154_41 (by decide +kernel) ?_
        exact x_iret k154_44 rfl ⟨hG0, f0, (-1002), rfl, ⟨by decide, by decide⟩, by omega, i0_J⟩
    · rw [e_z31]
      show xe none 154 10 [(0, .ref 256), (1, vi a), (2, vi b), (3, vi d)] [vi 0] s0 0 0 _
      refine x_if_ne k154_10 (t := 17) rfl ⟨by decide, by decide⟩ (fun c62 => by exfalso; omega) (fun c62 => ?_)
      refine x_sipush k154_13 (by decide +kernel) ?_
      exact x_iret k154_16 rfl ⟨hG0, f0, (-1001), rfl, ⟨by decide, by decide⟩, by omega, i0_J⟩
theorem E_X7_isEnded_1 (s0 : xS) (hG0 : GI s0) (a : Int) (b_a : (-2147483648) ≤ a ∧ a ≤ 2147483647) (b : Int) (b_b : (-2147483648) ≤ b ∧ b ≤ 2147483647) : xe none 63 0 (lv_args 0 [.ref 1, vi a, vi b]) [] s0 0 0 (fun s' v => s' = s0 ∧ ∃ z, v = some (vi z) ∧ (((a ≥ 0 ∧ a < s0 1 4) ∧ z = 1 ∧ (s0 3 a.toNat ≠ -1 ∧ s0 3 a.toNat ≤ b)) ∨ (z = 0 ∧ ¬ (0 ≤ a ∧ a < s0 1 4 ∧ (s0 3 a.toNat ≠ -1 ∧ s0 3 a.toNat ≤ b))))) := by
  have f0 : FL [] s0 s0 := FL.rf
  show xe none 63 0 [(0, .ref 1), (1, vi a), (2, vi b)] [] s0 0 0 _
  refine x_A k63_0 (fun _ => rfl) ?_
  refine x_A k63_1 (fun _ => rfl) ?_
  obtain ⟨z1, e_z1⟩ : ∃ z, z = s0 1 4 := ⟨_, rfl⟩
  have g_z1 : (1 : Int) ≤ s0 1 4 ∧ s0 1 4 ≤ 40 := hG0 1 4
  refine x_callV k63_2 (y := 59) (n := 1) (w0 := 0) (w1 := 1) (as := [vi a]) (rest := []) (by decide +kernel) (q := 1) (nq := 5) (kq := 4) ⟨by decide, rfl⟩ rfl rfl rfl rfl (xe_mono (C_X7_has_1 s0 hG0 a (by first | exact x_rb b_a rfl rfl | exact ⟨by omega, by omega⟩)) ?_)
  rintro s3 v ⟨h_s3, z2, rfl, hz_z2⟩
  rw [h_s3]
  rcases hz_z2 with ⟨c_z2, e_z2⟩ | ⟨c_z2, e_z2⟩
  · rw [e_z2]
    show xe none 63 5 [(0, .ref 1), (1, vi a), (2, vi b)] [vi 1] s0 0 0 _
    refine x_if_eq k63_5 (t := 32) rfl ⟨by decide, by decide⟩ (fun c4 => by exfalso; omega) (fun c4 => ?_)
    refine x_A k63_8 (fun _ => rfl) ?_
    refine x_getR k63_9 (f := 1) rfl (q := 1) (n := 5) (kd := 4) ⟨by decide, rfl⟩ (q2 := 3) (by decide) rfl ?_
    refine x_A k63_12 (fun _ => rfl) ?_
    refine x_iald k63_13 (q := 3) (n := 40) ⟨by decide, rfl⟩ (by decide) (by first | exact x_rbl b_a rfl rfl | exact ⟨by omega, by omega⟩) ?_
    refine x_top (fun z5 e_z5 => ?_)
    have g_z5 : (-1) ≤ s0 3 a.toNat ∧ s0 3 a.toNat ≤ 9 := hG0 3 a.toNat
    refine x_A k63_14 (fun _ => rfl) ?_
    refine x_ic_eq k63_15 (t := 32) rfl (by first | exact x_rbe e_z5 g_z5 rfl rfl | exact x_rb g_z5 rfl rfl | exact ⟨by omega, by omega⟩) ⟨by decide, by decide⟩ (fun c6 => ?_) (fun c6 => ?_)
    · skip
      refine x_A k63_32 (fun _ => rfl) ?_
      exact x_zret k63_33 rfl ⟨by omega, by omega⟩ ⟨rfl, 0, rfl, by omega⟩
    · skip
      refine x_A k63_18 (fun _ => rfl) ?_
      refine x_getR k63_19 (f := 1) rfl (q := 1) (n := 5) (kd := 4) ⟨by decide, rfl⟩ (q2 := 3) (by decide) rfl ?_
      refine x_A k63_22 (fun _ => rfl) ?_
      refine x_iald k63_23 (q := 3) (n := 40) ⟨by decide, rfl⟩ (by decide) (by first | exact x_rbl b_a rfl rfl | exact ⟨by omega, by omega⟩) ?_
      refine x_rw (e_z5.symm) ?_
      refine x_A k63_24 (fun _ => rfl) ?_
      refine x_ic_gt k63_25 (t := 32) rfl (by first | exact x_rbe e_z5 g_z5 rfl rfl | exact x_rb g_z5 rfl rfl | exact ⟨by omega, by omega⟩) (by first | exact x_rb b_b rfl rfl | exact ⟨by omega, by omega⟩) (fun c7 => ?_) (fun c7 => ?_)
      · skip
        refine x_A k63_32 (fun _ => rfl) ?_
        exact x_zret k63_33 rfl ⟨by omega, by omega⟩ ⟨rfl, 0, rfl, by omega⟩
      · skip
        refine x_A k63_28 (fun _ => rfl) ?_
        refine x_goto k63_29 (t := 33) rfl ?_
        exact x_zret k63_33 rfl ⟨by omega, by omega⟩ ⟨rfl, 1, rfl, by omega⟩
  · rw [e_z2]
    show xe none 63 5 [(0, .ref 1), (1, vi a), (2, vi b)] [vi 0] s0 0 0 _
    refine x_if_eq k63_5 (t := 32) rfl ⟨by decide, by decide⟩ (fun c8 => ?_) (fun c8 => by exfalso; omega)
    refine x_A k63_32 (fun _ => rfl) ?_
    exact x_zret k63_33 rfl ⟨by omega, by omega⟩ ⟨rfl, 0, rfl, by omega⟩
theorem E_X7_isThere_1 (s0 : xS) (hG0 : GI s0) (a : Int) (b_a : (-2147483648) ≤ a ∧ a ≤ 2147483647) (b : Int) (b_b : (-2147483648) ≤ b ∧ b ≤ 2147483647) : xe none 64 0 (lv_args 0 [.ref 1, vi a, vi b]) [] s0 0 0 (fun s' v => s' = s0 ∧ ∃ z, v = some (vi z) ∧ (((a ≥ 0 ∧ a < s0 1 4) ∧ z = 1 ∧ (s0 2 a.toNat ≤ b ∧ ¬ (s0 3 a.toNat ≠ -1 ∧ s0 3 a.toNat ≤ b))) ∨ (z = 0 ∧ ¬ (0 ≤ a ∧ a < s0 1 4 ∧ (s0 2 a.toNat ≤ b ∧ ¬ (s0 3 a.toNat ≠ -1 ∧ s0 3 a.toNat ≤ b)))))) := by
  have f0 : FL [] s0 s0 := FL.rf
  show xe none 64 0 [(0, .ref 1), (1, vi a), (2, vi b)] [] s0 0 0 _
  refine x_A k64_0 (fun _ => rfl) ?_
  refine x_A k64_1 (fun _ => rfl) ?_
  obtain ⟨z1, e_z1⟩ : ∃ z, z = s0 1 4 := ⟨_, rfl⟩
  have g_z1 : (1 : Int) ≤ s0 1 4 ∧ s0 1 4 ≤ 40 := hG0 1 4
  refine x_callV k64_2 (y := 59) (n := 1) (w0 := 0) (w1 := 1) (as := [vi a]) (rest := []) (by decide +kernel) (q := 1) (nq := 5) (kq := 4) ⟨by decide, rfl⟩ rfl rfl rfl rfl (xe_mono (C_X7_has_1 s0 hG0 a (by first | exact x_rb b_a rfl rfl | exact ⟨by omega, by omega⟩)) ?_)
  rintro s3 v ⟨h_s3, z2, rfl, hz_z2⟩
  rw [h_s3]
  rcases hz_z2 with ⟨c_z2, e_z2⟩ | ⟨c_z2, e_z2⟩
  · rw [e_z2]
    show xe none 64 5 [(0, .ref 1), (1, vi a), (2, vi b)] [vi 1] s0 0 0 _
    refine x_if_eq k64_5 (t := 31) rfl ⟨by decide, by decide⟩ (fun c4 => by exfalso; omega) (fun c4 => ?_)
    refine x_A k64_8 (fun _ => rfl) ?_
    refine x_getR k64_9 (f := 0) rfl (q := 1) (n := 5) (kd := 4) ⟨by decide, rfl⟩ (q2 := 2) (by decide) rfl ?_
    refine x_A k64_12 (fun _ => rfl) ?_
    refine x_iald k64_13 (q := 2) (n := 40) ⟨by decide, rfl⟩ (by decide) (by first | exact x_rbl b_a rfl rfl | exact ⟨by omega, by omega⟩) ?_
    refine x_top (fun z5 e_z5 => ?_)
    have g_z5 : (0 : Int) ≤ s0 2 a.toNat ∧ s0 2 a.toNat ≤ 9 := hG0 2 a.toNat
    refine x_A k64_14 (fun _ => rfl) ?_
    refine x_ic_gt k64_15 (t := 31) rfl (by first | exact x_rbe e_z5 g_z5 rfl rfl | exact x_rb g_z5 rfl rfl | exact ⟨by omega, by omega⟩) (by first | exact x_rb b_b rfl rfl | exact ⟨by omega, by omega⟩) (fun c6 => ?_) (fun c6 => ?_)
    · skip
      refine x_A k64_31 (fun _ => rfl) ?_
      exact x_zret k64_32 rfl ⟨by omega, by omega⟩ ⟨rfl, 0, rfl, by omega⟩
    · skip
      refine x_A k64_18 (fun _ => rfl) ?_
      refine x_A k64_19 (fun _ => rfl) ?_
      refine x_A k64_20 (fun _ => rfl) ?_
      refine x_callV k64_21 (y := 63) (n := 2) (w0 := 0) (w1 := 2) (as := [vi a, vi b]) (rest := []) (by decide +kernel) (q := 1) (nq := 5) (kq := 4) ⟨by decide, rfl⟩ rfl rfl rfl rfl (xe_mono (E_X7_isEnded_1 s0 hG0 a (by first | exact x_rb b_a rfl rfl | exact ⟨by omega, by omega⟩) b (by first | exact x_rb b_b rfl rfl | exact ⟨by omega, by omega⟩)) ?_)
      rintro s8 v ⟨h_s8, z7, rfl, hz_z7⟩
      rw [h_s8]
      rcases hz_z7 with ⟨c_z7, e_z7, m_z7⟩ | ⟨e_z7, m_z7⟩
      · rw [e_z7]
        show xe none 64 24 [(0, .ref 1), (1, vi a), (2, vi b)] [vi 1] s0 0 0 _
        refine x_if_ne k64_24 (t := 31) rfl ⟨by decide, by decide⟩ (fun c9 => ?_) (fun c9 => by exfalso; omega)
        refine x_A k64_31 (fun _ => rfl) ?_
        exact x_zret k64_32 rfl ⟨by omega, by omega⟩ ⟨rfl, 0, rfl, by omega⟩
      · rw [e_z7]
        show xe none 64 24 [(0, .ref 1), (1, vi a), (2, vi b)] [vi 0] s0 0 0 _
        refine x_if_ne k64_24 (t := 31) rfl ⟨by decide, by decide⟩ (fun c10 => by exfalso; omega) (fun c10 => ?_)
        refine x_A k64_27 (fun _ => rfl) ?_
        refine x_goto k64_28 (t := 32) rfl ?_
        exact x_zret k64_32 rfl ⟨by omega, by omega⟩ ⟨rfl, 1, rfl, by omega⟩
  · rw [e_z2]
    show xe none 64 5 [(0, .ref 1), (1, vi a), (2, vi b)] [vi 0] s0 0 0 _
    refine x_if_eq k64_5 (t := 31) rfl ⟨by decide, by decide⟩ (fun c11 => ?_) (fun c11 => by exfalso; omega)
    refine x_A k64_31 (fun _ => rfl) ?_
    exact x_zret k64_32 rfl ⟨by omega, by omega⟩ ⟨rfl, 0, rfl, by omega⟩
theorem E_X7_add_1 (s0 : xS) (hG0 : GI s0) (a : Int) (b_a : (-1) ≤ a ∧ a ≤ 39) (b : Int) (b_b : 0 ≤ b ∧ b ≤ 9) : xe none 60 0 (lv_args 0 [.ref 1, vi a, vi b]) [] s0 0 0 (fun s' v => GI s' ∧ FL [69, 128, 384] s0 s' ∧ ∃ z, v = some (vi z) ∧ ((-1004) ≤ z ∧ z ≤ 39) ∧ ((40 ≤ s0 1 4 ∧ z = -1004 ∧ s' 1 4 = s0 1 4 ∧ s' 2 = s0 2) ∨ (s0 1 4 < 40 ∧ z = s0 1 4 ∧ s' 1 4 = s0 1 4 + 1 ∧ ∀ j, s' 2 j = if j = (s0 1 4).toNat then b else s0 2 j))) := by
  have f0 : FL [69, 128, 384] s0 s0 := FL.rf
  show xe none 60 0 [(0, .ref 1), (1, vi a), (2, vi b)] [] s0 0 0 _
  refine x_A k60_0 (fun _ => rfl) ?_
  refine x_getI k60_1 (f := 4) rfl (q := 1) (n := 5) (kd := 4) ⟨by decide, rfl⟩ (by decide) rfl ?_
  refine x_top (fun z1 e_z1 => ?_)
  have g_z1 : (1 : Int) ≤ s0 1 4 ∧ s0 1 4 ≤ 40 := hG0 1 4
  refine x_istore_n k60_4 (ls' := [(3, vi z1), (0, .ref 1), (1, vi a), (2, vi b)]) (by decide) rfl ?_
  refine x_A k60_5 (fun _ => rfl) ?_
  refine x_bipush k60_6 (by decide +kernel) ?_
  refine x_ic_lt k60_8 (t := 15) rfl (by first | exact x_rbe e_z1 g_z1 rfl rfl | exact x_rb g_z1 rfl rfl | exact ⟨by omega, by omega⟩) ⟨by decide, by decide⟩ (fun c2 => ?_) (fun c2 => ?_)
  · skip
    refine x_A k60_15 (fun _ => rfl) ?_
    refine x_getR k60_16 (f := 0) rfl (q := 1) (n := 5) (kd := 4) ⟨by decide, rfl⟩ (q2 := 2) (by decide) rfl ?_
    refine x_A k60_19 (fun _ => rfl) ?_
    refine x_A k60_20 (fun _ => rfl) ?_
    refine x_iast k60_21 (q := 2) (n := 40) ⟨by decide, rfl⟩ (by decide) (by first | exact x_rbel e_z1 g_z1 rfl rfl | exact x_rbl g_z1 rfl rfl | exact ⟨by omega, by omega⟩) ?_
    refine x_nh (fun s3 e_s3 => ?_)
    have hG_s3 : GI s3 := by rw [e_s3]; exact hG0.up (show 0 ≤ b ∧ b ≤ 9 from (by first | exact x_rb b_b rfl rfl | exact ⟨by omega, by omega⟩))
    have f_s3 : FL [69, 128, 384] s0 s3 := by rw [e_s3]; exact f0.up (show 128 ∈ [69, 128, 384] from by decide +kernel)
    have q4 : s3 1 4 = z1 := by rw [e_s3, x_up_q (by decide)]; exact e_z1.symm
    have q5 : s3 2 z1.toNat = b := by rw [e_s3]; exact x_up_same
    refine x_A k60_22 (fun _ => rfl) ?_
    refine x_A k60_23 (fun _ => rfl) ?_
    refine x_getI k60_24 (f := 4) rfl (q := 1) (n := 5) (kd := 4) ⟨by decide, rfl⟩ (by decide) rfl ?_
    refine x_rw (q4) ?_
    refine x_A k60_27 (fun _ => rfl) ?_
    refine x_iadd k60_28 ?_
    refine x_top (fun z6 e_z6 => ?_)
    refine x_putI k60_29 (f := 4) rfl (q := 1) (n := 5) (kd := 4) ⟨by decide, rfl⟩ rfl rfl rfl ?_
    refine x_nh (fun s7 e_s7 => ?_)
    have hG_s7 : GI s7 := by rw [e_s7]; exact hG_s3.up (show 1 ≤ z6 ∧ z6 ≤ 40 from (by first | exact x_rbe e_z6 g_z6 rfl rfl | exact x_rb g_z6 rfl rfl | exact ⟨by omega, by omega⟩))
    have f_s7 : FL [69, 128, 384] s0 s7 := by rw [e_s7]; exact f_s3.up (show 69 ∈ [69, 128, 384] from by decide +kernel)
    have q8 : s7 1 4 = z6 := by rw [e_s7]; exact x_up_same
    have q9 : s7 2 z1.toNat = b := by rw [e_s7, x_up_q (by first | decide | omega)]; exact q5
    refine x_A k60_32 (fun _ => rfl) ?_
    refine x_A k60_33 (fun _ => rfl) ?_
    refine x_A k60_34 (fun _ => rfl) ?_
    refine x_A k60_35 (fun _ => rfl) ?_
    refine x_callV k60_36 (y := 61) (n := 3) (w0 := 0) (w1 := 3) (as := [vi z1, vi a, vi b]) (rest := []) (by decide +kernel) (q := 1) (nq := 5) (kq := 4) ⟨by decide, rfl⟩ rfl rfl rfl rfl (xe_mono (C_X7_setParent_1 s7 hG_s7 z1 (by first | exact x_rbe e_z1 g_z1 rfl rfl | exact x_rb g_z1 rfl rfl | exact ⟨by omega, by omega⟩) a (by first | exact x_rb b_a rfl rfl | exact ⟨by omega, by omega⟩) b (by first | exact x_rb b_b rfl rfl | exact ⟨by omega, by omega⟩)) ?_)
    rintro s11 v ⟨hG_s11, t_s11, rfl⟩
    have f_s11 : FL [69, 128, 384] s0 s11 := f_s7.tr t_s11 (by decide +kernel)
    have q12 : s11 1 4 = z6 := (t_s11 1 4 (show 69 ∉ [384] from by decide +kernel)).trans q8
    have q13 : s11 2 z1.toNat = b := (t_s11 2 z1.toNat (show 128 ∉ [384] from by decide +kernel)).trans q9
    show xe none 60 39 [(3, vi z1), (0, .ref 1), (1, vi a), (2, vi b)] [] s11 0 0 _
    refine x_A k60_39 (fun _ => rfl) ?_
    exact x_iret k60_40 rfl ⟨hG_s11, f_s11, z1, rfl, (by first | exact x_rbe e_z1 g_z1 rfl rfl | exact x_rb g_z1 rfl rfl | exact ⟨by omega, by omega⟩), Or.inr ⟨by omega, by omega, by omega, fun j => by rw [t_s11 2 j (show 128 ∉ _ from by decide), e_s7, x_up_q (by decide), e_s3, x_up_at, show z1 = s0 1 4 by omega]⟩⟩
  · skip
    refine x_sipush k60_11 (by decide +kernel) ?_
    exact x_iret k60_14 rfl ⟨hG0, f0, (-1004), rfl, ⟨by decide, by decide⟩, Or.inl ⟨by omega, rfl, rfl, rfl⟩⟩
theorem E_X10_mark_0 (s0 : xS) (hG0 : GI s0) (a : Int) (b_a : (-2147483648) ≤ a ∧ a ≤ 2147483647) (p_1_4 : 1 ≤ s0 1 4 ∧ s0 1 4 ≤ 40) (p_0_10 : 0 ≤ s0 0 10 ∧ s0 0 10 ≤ 9) : xe none 92 0 (lv_args 0 [.ref 0, vi a]) [] s0 0 0 (fun s' v => GI s' ∧ FL [69, 128, 384, 3276, 3277] s0 s' ∧ ∃ z, v = some (vi z) ∧ ((-1004) ≤ z ∧ z ≤ 39) ∧ (MkC s0 s' a z)) := by
  have f0 : FL [69, 128, 384, 3276, 3277] s0 s0 := FL.rf
  show xe none 92 0 [(0, .ref 0), (1, vi a)] [] s0 0 0 _
  obtain ⟨z1, e_z1⟩ : ∃ z, z = s0 1 4 := ⟨_, rfl⟩
  have g_z1 : (1 : Int) ≤ s0 1 4 ∧ s0 1 4 ≤ 40 := hG0 1 4
  obtain ⟨z2, e_z2⟩ : ∃ z, z = s0 0 10 := ⟨_, rfl⟩
  have g_z2 : (0 : Int) ≤ s0 0 10 ∧ s0 0 10 ≤ 9 := hG0 0 10
  refine x_A k92_0 (fun _ => rfl) ?_
  refine x_getR k92_1 (f := 0) rfl (q := 0) (n := 12) (kd := 3) ⟨by decide, rfl⟩ (q2 := 1) (by decide) rfl ?_
  refine x_A k92_4 (fun _ => rfl) ?_
  refine x_callV k92_5 (y := 59) (n := 1) (w0 := 0) (w1 := 1) (as := [vi a]) (rest := []) (by decide +kernel) (q := 1) (nq := 5) (kq := 4) ⟨by decide, rfl⟩ rfl rfl rfl rfl (xe_mono (C_X7_has_1 s0 hG0 a (by first | exact x_rb b_a rfl rfl | exact ⟨by omega, by omega⟩)) ?_)
  rintro s4 v ⟨h_s4, z3, rfl, hz_z3⟩
  rw [h_s4]
  rcases hz_z3 with ⟨c_z3, e_z3⟩ | ⟨c_z3, e_z3⟩
  · rw [e_z3]
    show xe none 92 8 [(0, .ref 0), (1, vi a)] [vi 1] s0 0 0 _
    refine x_if_ne k92_8 (t := 15) rfl ⟨by decide, by decide⟩ (fun c5 => ?_) (fun c5 => by exfalso; omega)
    refine x_A k92_15 (fun _ => rfl) ?_
    refine x_getR k92_16 (f := 0) rfl (q := 0) (n := 12) (kd := 3) ⟨by decide, rfl⟩ (q2 := 1) (by decide) rfl ?_
    refine x_A k92_19 (fun _ => rfl) ?_
    refine x_A k92_20 (fun _ => rfl) ?_
    refine x_getI k92_21 (f := 10) rfl (q := 0) (n := 12) (kd := 3) ⟨by decide, rfl⟩ (by decide) rfl ?_
    refine x_rw (e_z2.symm) ?_
    refine x_callV k92_24 (y := 64) (n := 2) (w0 := 0) (w1 := 2) (as := [vi a, vi z2]) (rest := []) (by decide +kernel) (q := 1) (nq := 5) (kq := 4) ⟨by decide, rfl⟩ rfl rfl rfl rfl (xe_mono (E_X7_isThere_1 s0 hG0 a (by first | exact x_rb b_a rfl rfl | exact ⟨by omega, by omega⟩) z2 (by first | exact x_rbe e_z2 g_z2 rfl rfl | exact x_rb g_z2 rfl rfl | exact ⟨by omega, by omega⟩)) ?_)
    rintro s7 v ⟨h_s7, z6, rfl, hz_z6⟩
    rw [h_s7]
    rcases hz_z6 with ⟨c_z6, e_z6, m_z6⟩ | ⟨e_z6, m_z6⟩
    · rw [e_z6]
      show xe none 92 27 [(0, .ref 0), (1, vi a)] [vi 1] s0 0 0 _
      refine x_if_ne k92_27 (t := 34) rfl ⟨by decide, by decide⟩ (fun c8 => ?_) (fun c8 => by exfalso; omega)
      refine x_A k92_34 (fun _ => rfl) ?_
      refine x_getR k92_35 (f := 9) rfl (q := 0) (n := 12) (kd := 3) ⟨by decide, rfl⟩ (q2 := 243) (by decide) rfl ?_
      refine x_callV k92_38 (y := 73) (n := 0) (w0 := 0) (w1 := 0) (as := []) (rest := []) (by decide +kernel) (q := 243) (nq := 13) (kq := 13) ⟨by decide, rfl⟩ rfl rfl rfl rfl (xe_mono (C_X8_forget_243 s0 hG0) ?_)
      rintro s10 v ⟨hG_s10, t_s10, rfl⟩
      have f_s10 : FL [69, 128, 384, 3276, 3277] s0 s10 := f0.tr t_s10 (by decide +kernel)
      have q11 : s10 1 4 = z1 := (t_s10 1 4 (show 69 ∉ [3276, 3277] from by decide +kernel)).trans e_z1.symm
      have q12 : s10 0 10 = z2 := (t_s10 0 10 (show 11 ∉ [3276, 3277] from by decide +kernel)).trans e_z2.symm
      show xe none 92 41 [(0, .ref 0), (1, vi a)] [] s10 0 0 _
      refine x_A k92_41 (fun _ => rfl) ?_
      refine x_getR k92_42 (f := 0) rfl (q := 0) (n := 12) (kd := 3) ⟨by decide, rfl⟩ (q2 := 1) (by decide) rfl ?_
      refine x_A k92_45 (fun _ => rfl) ?_
      refine x_A k92_46 (fun _ => rfl) ?_
      refine x_getI k92_47 (f := 10) rfl (q := 0) (n := 12) (kd := 3) ⟨by decide, rfl⟩ (by decide) rfl ?_
      refine x_rw (q12) ?_
      refine x_callV k92_50 (y := 60) (n := 2) (w0 := 0) (w1 := 2) (as := [vi a, vi z2]) (rest := []) (by decide +kernel) (q := 1) (nq := 5) (kq := 4) ⟨by decide, rfl⟩ rfl rfl rfl rfl (xe_mono (E_X7_add_1 s10 hG_s10 a (by first | exact x_rb b_a rfl rfl | exact ⟨by omega, by omega⟩) z2 (by first | exact x_rbe e_z2 g_z2 rfl rfl | exact x_rb g_z2 rfl rfl | exact ⟨by omega, by omega⟩)) ?_)
      rintro s14 v ⟨hG_s14, t_s14, z13, rfl, g_z13, xp_z13⟩
      have f_s14 : FL [69, 128, 384, 3276, 3277] s0 s14 := f_s10.tr t_s14 (by decide +kernel)
      have q15 : s14 0 10 = z2 := (t_s14 0 10 (show 11 ∉ [69, 128, 384] from by decide +kernel)).trans q12
      obtain ⟨z16, e_z16⟩ : ∃ z, z = s14 1 4 := ⟨_, rfl⟩
      have g_z16 : (1 : Int) ≤ s14 1 4 ∧ s14 1 4 ≤ 40 := hG_s14 1 4
      show xe none 92 53 [(0, .ref 0), (1, vi a)] [vi z13] s14 0 0 _
      have F2 : s10 2 = s0 2 := funext fun i => t_s10 2 i (show 128 ∉ _ from by decide)
      exact x_iret k92_53 rfl ⟨hG_s14, f_s14, z13, rfl, (by first | exact x_rbe e_z13 g_z13 rfl rfl | exact x_rb g_z13 rfl rfl | exact ⟨by omega, by omega⟩), (by unfold MkC; exact xp_z13.elim (fun ⟨u1, u2, u3, u4⟩ => Or.inr (Or.inr (Or.inl ⟨by omega, by omega, by omega, by omega, by omega, u4.trans F2⟩))) (fun ⟨u1, u2, u3, u4⟩ => Or.inr (Or.inr (Or.inr ⟨by omega, by omega, by omega, by omega, by omega, fun j => by rw [u4, show s10 1 4 = s0 1 4 by omega, show z2 = s0 0 10 by omega, F2]⟩))))⟩
    · rw [e_z6]
      show xe none 92 27 [(0, .ref 0), (1, vi a)] [vi 0] s0 0 0 _
      refine x_if_ne k92_27 (t := 34) rfl ⟨by decide, by decide⟩ (fun c17 => by exfalso; omega) (fun c17 => ?_)
      refine x_sipush k92_30 (by decide +kernel) ?_
      exact x_iret k92_33 rfl ⟨hG0, f0, (-1003), rfl, ⟨by decide, by decide⟩, (by unfold MkC; exact Or.inr (Or.inl ⟨by omega, by omega, rfl, rfl, rfl⟩))⟩
  · rw [e_z3]
    show xe none 92 8 [(0, .ref 0), (1, vi a)] [vi 0] s0 0 0 _
    refine x_if_ne k92_8 (t := 15) rfl ⟨by decide, by decide⟩ (fun c18 => by exfalso; omega) (fun c18 => ?_)
    refine x_sipush k92_11 (by decide +kernel) ?_
    exact x_iret k92_14 rfl ⟨hG0, f0, (-1001), rfl, ⟨by decide, by decide⟩, (by unfold MkC; exact Or.inl ⟨by omega, rfl, rfl, rfl⟩)⟩
theorem E_X11_tell_256 (s0 : xS) (hG0 : GI s0) (a : Int) (b_a : (-1) ≤ a ∧ a ≤ 39) (p_256_1 : 1 ≤ s0 256 1 ∧ s0 256 1 ≤ 39) (pa : 0 ≤ a ∧ a < s0 256 1) (i0_J : J s0) : xe none 139 0 (lv_args 0 [.ref 256, vi a]) [] s0 0 0 (fun s' v => GI s' ∧ FL [4098, 4160, 4224, 4288, 4352] s0 s' ∧ v = none ∧ (s' 256 1 = s0 256 1 + 1 ∧ (∀ j, s' 257 j = if j = (s0 256 1).toNat then s0 256 0 else s0 257 j) ∧ (∀ j, s' 258 j = if j = (s0 256 1).toNat then -1 else s0 258 j)) ∧ J s') := by
  have f0 : FL [4098, 4160, 4224, 4288, 4352] s0 s0 := FL.rf
  show xe none 139 0 [(0, .ref 256), (1, vi a)] [] s0 0 0 _
  obtain ⟨z1, e_z1⟩ : ∃ z, z = s0 256 1 := ⟨_, rfl⟩
  have g_z1 : (1 : Int) ≤ s0 256 1 ∧ s0 256 1 ≤ 40 := hG0 256 1
  refine x_A k139_0 (fun _ => rfl) ?_
  refine x_getR k139_1 (f := 2) rfl (q := 256) (n := 62) (kd := 15) ⟨by decide, rfl⟩ (q2 := 257) (by decide) rfl ?_
  refine x_A k139_4 (fun _ => rfl) ?_
  refine x_getI k139_5 (f := 1) rfl (q := 256) (n := 62) (kd := 15) ⟨by decide, rfl⟩ (by decide) rfl ?_
  refine x_rw (e_z1.symm) ?_
  refine x_A k139_8 (fun _ => rfl) ?_
  refine x_getI k139_9 (f := 0) rfl (q := 256) (n := 62) (kd := 15) ⟨by decide, rfl⟩ (by decide) rfl ?_
  refine x_top (fun z2 e_z2 => ?_)
  have g_z2 : (0 : Int) ≤ s0 256 0 ∧ s0 256 0 ≤ 9 := hG0 256 0
  refine x_iast k139_12 (q := 257) (n := 40) ⟨by decide, rfl⟩ (by decide) (by first | exact x_rbel e_z1 g_z1 rfl rfl | exact x_rbl g_z1 rfl rfl | exact ⟨by omega, by omega⟩) ?_
  refine x_nh (fun s3 e_s3 => ?_)
  have hG_s3 : GI s3 := by rw [e_s3]; exact hG0.up (show 0 ≤ z2 ∧ z2 ≤ 9 from (by first | exact x_rbe e_z2 g_z2 rfl rfl | exact x_rb g_z2 rfl rfl | exact ⟨by omega, by omega⟩))
  have f_s3 : FL [4098, 4160, 4224, 4288, 4352] s0 s3 := by rw [e_s3]; exact f0.up (show 4160 ∈ [4098, 4160, 4224, 4288, 4352] from by decide +kernel)
  have q4 : s3 256 1 = z1 := by rw [e_s3, x_up_q (by decide)]; exact e_z1.symm
  have q5 : s3 256 0 = z2 := by rw [e_s3, x_up_q (by decide)]; exact e_z2.symm
  have q6 : s3 257 z1.toNat = z2 := by rw [e_s3]; exact x_up_same
  refine x_A k139_13 (fun _ => rfl) ?_
  refine x_getR k139_14 (f := 3) rfl (q := 256) (n := 62) (kd := 15) ⟨by decide, rfl⟩ (q2 := 258) (by decide) rfl ?_
  refine x_A k139_17 (fun _ => rfl) ?_
  refine x_getI k139_18 (f := 1) rfl (q := 256) (n := 62) (kd := 15) ⟨by decide, rfl⟩ (by decide) rfl ?_
  refine x_rw (q4) ?_
  refine x_A k139_21 (fun _ => rfl) ?_
  refine x_iast k139_22 (q := 258) (n := 40) ⟨by decide, rfl⟩ (by decide) (by first | exact x_rbel e_z1 g_z1 rfl rfl | exact x_rbl g_z1 rfl rfl | exact ⟨by omega, by omega⟩) ?_
  refine x_nh (fun s7 e_s7 => ?_)
  have hG_s7 : GI s7 := by rw [e_s7]; exact hG_s3.up (show (-1) ≤ (-1) ∧ (-1) ≤ 9 from ⟨by decide, by decide⟩)
  have f_s7 : FL [4098, 4160, 4224, 4288, 4352] s0 s7 := by rw [e_s7]; exact f_s3.up (show 4224 ∈ [4098, 4160, 4224, 4288, 4352] from by decide +kernel)
  have q8 : s7 256 1 = z1 := by rw [e_s7, x_up_q (by decide)]; exact q4
  have q9 : s7 256 0 = z2 := by rw [e_s7, x_up_q (by decide)]; exact q5
  have q10 : s7 257 z1.toNat = z2 := by rw [e_s7, x_up_q (by first | decide | omega)]; exact q6
  have q11 : s7 258 z1.toNat = (-1) := by rw [e_s7]; exact x_up_same
  refine x_A k139_23 (fun _ => rfl) ?_
  refine x_getR k139_24 (f := 4) rfl (q := 256) (n := 62) (kd := 15) ⟨by decide, rfl⟩ (q2 := 259) (by decide) rfl ?_
  refine x_A k139_27 (fun _ => rfl) ?_
  refine x_getI k139_28 (f := 1) rfl (q := 256) (n := 62) (kd := 15) ⟨by decide, rfl⟩ (by decide) rfl ?_
  refine x_rw (q8) ?_
  refine x_A k139_31 (fun _ => rfl) ?_
  refine x_iast k139_32 (q := 259) (n := 40) ⟨by decide, rfl⟩ (by decide) (by first | exact x_rbel e_z1 g_z1 rfl rfl | exact x_rbl g_z1 rfl rfl | exact ⟨by omega, by omega⟩) ?_
  refine x_nh (fun s12 e_s12 => ?_)
  have hG_s12 : GI s12 := by rw [e_s12]; exact hG_s7.up (show (-1) ≤ (-1) ∧ (-1) ≤ 39 from ⟨by decide, by decide⟩)
  have f_s12 : FL [4098, 4160, 4224, 4288, 4352] s0 s12 := by rw [e_s12]; exact f_s7.up (show 4288 ∈ [4098, 4160, 4224, 4288, 4352] from by decide +kernel)
  have q13 : s12 256 1 = z1 := by rw [e_s12, x_up_q (by decide)]; exact q8
  have q14 : s12 256 0 = z2 := by rw [e_s12, x_up_q (by decide)]; exact q9
  have q15 : s12 257 z1.toNat = z2 := by rw [e_s12, x_up_q (by first | decide | omega)]; exact q10
  have q16 : s12 258 z1.toNat = (-1) := by rw [e_s12, x_up_q (by first | decide | omega)]; exact q11
  have q17 : s12 259 z1.toNat = (-1) := by rw [e_s12]; exact x_up_same
  refine x_A k139_33 (fun _ => rfl) ?_
  refine x_A k139_34 (fun _ => rfl) ?_
  refine x_getI k139_35 (f := 1) rfl (q := 256) (n := 62) (kd := 15) ⟨by decide, rfl⟩ (by decide) rfl ?_
  refine x_rw (q13) ?_
  refine x_A k139_38 (fun _ => rfl) ?_
  refine x_iadd k139_39 ?_
  refine x_top (fun z18 e_z18 => ?_)
  refine x_putI k139_40 (f := 1) rfl (q := 256) (n := 62) (kd := 15) ⟨by decide, rfl⟩ rfl rfl rfl ?_
  refine x_nh (fun s19 e_s19 => ?_)
  have hG_s19 : GI s19 := by rw [e_s19]; exact hG_s12.up (show 1 ≤ z18 ∧ z18 ≤ 40 from (by first | exact x_rbe e_z18 g_z18 rfl rfl | exact x_rb g_z18 rfl rfl | exact ⟨by omega, by omega⟩))
  have f_s19 : FL [4098, 4160, 4224, 4288, 4352] s0 s19 := by rw [e_s19]; exact f_s12.up (show 4098 ∈ [4098, 4160, 4224, 4288, 4352] from by decide +kernel)
  have q20 : s19 256 0 = z2 := by rw [e_s19, x_up_i (by decide)]; exact q14
  have q21 : s19 256 1 = z18 := by rw [e_s19]; exact x_up_same
  have q22 : s19 257 z1.toNat = z2 := by rw [e_s19, x_up_q (by first | decide | omega)]; exact q15
  have q23 : s19 258 z1.toNat = (-1) := by rw [e_s19, x_up_q (by first | decide | omega)]; exact q16
  have q24 : s19 259 z1.toNat = (-1) := by rw [e_s19, x_up_q (by first | decide | omega)]; exact q17
  refine x_A k139_43 (fun _ => rfl) ?_
  refine x_A k139_44 (fun _ => rfl) ?_
  refine x_getI k139_45 (f := 1) rfl (q := 256) (n := 62) (kd := 15) ⟨by decide, rfl⟩ (by decide) rfl ?_
  refine x_rw (q21) ?_
  refine x_A k139_48 (fun _ => rfl) ?_
  refine x_isub k139_49 ?_
  refine x_top (fun z25 e_z25 => ?_)
  refine x_A k139_50 (fun _ => rfl) ?_
  have J_t : J s19 := by rw [e_s19, e_s12, e_s7, e_s3]; exact J.tell i0_J hG0 e_z1 e_z2 (by omega) (by omega)
  have x_t : ∀ k, xup s19 (s19 256 0) k a ≠ z1 := by rw [e_s19, e_s12, e_s7, e_s3]; exact J.tellx i0_J hG0 e_z1 (by omega)
  refine x_callV k139_51 (y := 140) (n := 2) (w0 := 0) (w1 := 2) (as := [vi z25, vi a]) (rest := []) (by decide +kernel) (q := 256) (nq := 62) (kq := 15) ⟨by decide, rfl⟩ rfl rfl rfl rfl (xe_mono (D_X11_hang_256 s19 hG_s19 z25 (by first | exact x_rbe e_z25 g_z25 rfl rfl | exact x_rb g_z25 rfl rfl | exact ⟨by omega, by omega⟩) a (by first | exact x_rb b_a rfl rfl | exact ⟨by omega, by omega⟩)) ?_)
  rintro s27 v ⟨hG_s27, t_s27, rfl, xp_z26⟩
  have f_s27 : FL [4098, 4160, 4224, 4288, 4352] s0 s27 := f_s19.tr t_s27 (by decide +kernel)
  have q28 : s27 256 0 = z2 := (t_s27 256 0 (show 4097 ∉ [4352] from by decide +kernel)).trans q20
  have q29 : s27 256 1 = z18 := (t_s27 256 1 (show 4098 ∉ [4352] from by decide +kernel)).trans q21
  have q30 : s27 257 z1.toNat = z2 := (t_s27 257 z1.toNat (show 4160 ∉ [4352] from by decide +kernel)).trans q22
  have q31 : s27 258 z1.toNat = (-1) := (t_s27 258 z1.toNat (show 4224 ∉ [4352] from by decide +kernel)).trans q23
  have q32 : s27 259 z1.toNat = (-1) := (t_s27 259 z1.toNat (show 4288 ∉ [4352] from by decide +kernel)).trans q24
  show xe none 139 54 [(0, .ref 256), (1, vi a)] [] s27 0 0 _
  have J_h : J s27 := J.hang J_t hG_s19 (m := z25) (p := a) ⟨by omega, by omega⟩ ⟨by omega, by rw [q21]; omega⟩ (by rw [show z25 = z1 by omega]; exact x_t) t_s27 xp_z26
  exact x_vret k139_54 rfl ⟨hG_s27, f_s27, rfl, ⟨by omega, fun j => by rw [t_s27 257 j (show 4160 ∉ _ from by decide), e_s19, x_up_q (by decide), e_s12, x_up_q (by decide), e_s7, x_up_q (by decide), e_s3, x_up_at, show z1 = s0 256 1 by omega, show z2 = s0 256 0 by omega], fun j => by rw [t_s27 258 j (show 4224 ∉ _ from by decide), e_s19, x_up_q (by decide), e_s12, x_up_q (by decide), e_s7, x_up_at, e_s3, x_up_q (by decide), show z1 = s0 256 1 by omega]⟩, J_h⟩
theorem E_X11_mark_256 (s0 : xS) (hG0 : GI s0) (a : Int) (b_a : (-2147483648) ≤ a ∧ a ≤ 2147483647) (p_256_1 : 1 ≤ s0 256 1 ∧ s0 256 1 ≤ 40) (p_256_0 : 0 ≤ s0 256 0 ∧ s0 256 0 ≤ 9) (i0_J : J s0) : xe none 146 0 (lv_args 0 [.ref 256, vi a]) [] s0 0 0 (fun s' v => GI s' ∧ FL [4098, 4160, 4224, 4288, 4352] s0 s' ∧ ∃ z, v = some (vi z) ∧ ((-1004) ≤ z ∧ z ≤ 39) ∧ (MkR s0 s' a z) ∧ J s') := by
  have f0 : FL [4098, 4160, 4224, 4288, 4352] s0 s0 := FL.rf
  show xe none 146 0 [(0, .ref 256), (1, vi a)] [] s0 0 0 _
  obtain ⟨z1, e_z1⟩ : ∃ z, z = s0 256 1 := ⟨_, rfl⟩
  have g_z1 : (1 : Int) ≤ s0 256 1 ∧ s0 256 1 ≤ 40 := hG0 256 1
  obtain ⟨z2, e_z2⟩ : ∃ z, z = s0 256 0 := ⟨_, rfl⟩
  have g_z2 : (0 : Int) ≤ s0 256 0 ∧ s0 256 0 ≤ 9 := hG0 256 0
  refine x_A k146_0 (fun _ => rfl) ?_
  refine x_A k146_1 (fun _ => rfl) ?_
  refine x_callV k146_2 (y := 137) (n := 1) (w0 := 0) (w1 := 1) (as := [vi a]) (rest := []) (by decide +kernel) (q := 256) (nq := 62) (kq := 15) ⟨by decide, rfl⟩ rfl rfl rfl rfl (xe_mono (C_X11_isMark_256 s0 hG0 a (by first | exact x_rb b_a rfl rfl | exact ⟨by omega, by omega⟩)) ?_)
  rintro s4 v ⟨h_s4, z3, rfl, hz_z3⟩
  rw [h_s4]
  rcases hz_z3 with ⟨c_z3, e_z3⟩ | ⟨c_z3, e_z3⟩
  · rw [e_z3]
    show xe none 146 5 [(0, .ref 256), (1, vi a)] [vi 1] s0 0 0 _
    refine x_if_ne k146_5 (t := 12) rfl ⟨by decide, by decide⟩ (fun c5 => ?_) (fun c5 => by exfalso; omega)
    refine x_A k146_12 (fun _ => rfl) ?_
    refine x_A k146_13 (fun _ => rfl) ?_
    refine x_A k146_14 (fun _ => rfl) ?_
    refine x_getI k146_15 (f := 0) rfl (q := 256) (n := 62) (kd := 15) ⟨by decide, rfl⟩ (by decide) rfl ?_
    refine x_rw (e_z2.symm) ?_
    refine x_callV k146_18 (y := 142) (n := 2) (w0 := 0) (w1 := 2) (as := [vi a, vi z2]) (rest := []) (by decide +kernel) (q := 256) (nq := 62) (kq := 15) ⟨by decide, rfl⟩ rfl rfl rfl rfl (xe_mono (C_X11_isThere_256 s0 hG0 a (by first | exact x_rb b_a rfl rfl | exact ⟨by omega, by omega⟩) z2 (by first | exact x_rbe e_z2 g_z2 rfl rfl | exact x_rb g_z2 rfl rfl | exact ⟨by omega, by omega⟩)) ?_)
    rintro s7 v ⟨h_s7, z6, rfl, hz_z6⟩
    rw [h_s7]
    rcases hz_z6 with ⟨c_z6, e_z6, m_z6⟩ | ⟨e_z6, m_z6⟩
    · rw [e_z6]
      show xe none 146 21 [(0, .ref 256), (1, vi a)] [vi 1] s0 0 0 _
      refine x_if_ne k146_21 (t := 28) rfl ⟨by decide, by decide⟩ (fun c8 => ?_) (fun c8 => by exfalso; omega)
      refine x_A k146_28 (fun _ => rfl) ?_
      refine x_getI k146_29 (f := 1) rfl (q := 256) (n := 62) (kd := 15) ⟨by decide, rfl⟩ (by decide) rfl ?_
      refine x_rw (e_z1.symm) ?_
      refine x_bipush k146_32 (by decide +kernel) ?_
      refine x_ic_ne k146_34 (t := 41) rfl (by first | exact x_rbe e_z1 g_z1 rfl rfl | exact x_rb g_z1 rfl rfl | exact ⟨by omega, by omega⟩) ⟨by decide, by decide⟩ (fun c9 => ?_) (fun c9 => ?_)
      · skip
        refine x_A k146_41 (fun _ => rfl) ?_
        refine x_A k146_42 (fun _ => rfl) ?_
        refine x_callV k146_43 (y := 139) (n := 1) (w0 := 0) (w1 := 1) (as := [vi a]) (rest := []) (by decide +kernel) (q := 256) (nq := 62) (kq := 15) ⟨by decide, rfl⟩ rfl rfl rfl rfl (xe_mono (E_X11_tell_256 s0 hG0 a (by first | exact x_rb b_a rfl rfl | exact ⟨by omega, by omega⟩) ⟨by omega, by omega⟩ (by omega) i0_J) ?_)
        rintro s11 v ⟨hG_s11, t_s11, rfl, xp_z10, J_s11⟩
        have f_s11 : FL [4098, 4160, 4224, 4288, 4352] s0 s11 := f0.tr t_s11 (by decide +kernel)
        have q12 : s11 256 0 = z2 := (t_s11 256 0 (show 4097 ∉ [4098, 4160, 4224, 4288, 4352] from by decide +kernel)).trans e_z2.symm
        obtain ⟨z13, e_z13⟩ : ∃ z, z = s11 256 1 := ⟨_, rfl⟩
        have g_z13 : (1 : Int) ≤ s11 256 1 ∧ s11 256 1 ≤ 40 := hG_s11 256 1
        show xe none 146 46 [(0, .ref 256), (1, vi a)] [] s11 0 0 _
        refine x_A k146_46 (fun _ => rfl) ?_
        refine x_getI k146_47 (f := 1) rfl (q := 256) (n := 62) (kd := 15) ⟨by decide, rfl⟩ (by decide) rfl ?_
        refine x_rw (e_z13.symm) ?_
        refine x_A k146_50 (fun _ => rfl) ?_
        refine x_isub k146_51 ?_
        refine x_top (fun z14 e_z14 => ?_)
        exact x_iret k146_52 rfl ⟨hG_s11, f_s11, z14, rfl, (by first | exact x_rbe e_z14 g_z14 rfl rfl | exact x_rb g_z14 rfl rfl | exact ⟨by omega, by omega⟩), (by unfold MkR; exact Or.inr (Or.inr (Or.inr ⟨by omega, by omega, by omega, by omega, xp_z10.1, xp_z10.2.1, xp_z10.2.2⟩))), J_s11⟩
      · skip
        refine x_sipush k146_37 (by decide +kernel) ?_
        exact x_iret k146_40 rfl ⟨hG0, f0, (-1004), rfl, ⟨by decide, by decide⟩, (by unfold MkR; exact Or.inr (Or.inr (Or.inl ⟨by omega, by omega, by omega, rfl, rfl, rfl, rfl⟩))), i0_J⟩
    · rw [e_z6]
      show xe none 146 21 [(0, .ref 256), (1, vi a)] [vi 0] s0 0 0 _
      refine x_if_ne k146_21 (t := 28) rfl ⟨by decide, by decide⟩ (fun c15 => by exfalso; omega) (fun c15 => ?_)
      refine x_sipush k146_24 (by decide +kernel) ?_
      exact x_iret k146_27 rfl ⟨hG0, f0, (-1003), rfl, ⟨by decide, by decide⟩, (by unfold MkR; exact Or.inr (Or.inl ⟨by omega, by omega, rfl, rfl, rfl, rfl⟩)), i0_J⟩
  · rw [e_z3]
    show xe none 146 5 [(0, .ref 256), (1, vi a)] [vi 0] s0 0 0 _
    refine x_if_ne k146_5 (t := 12) rfl ⟨by decide, by decide⟩ (fun c16 => by exfalso; omega) (fun c16 => ?_)
    refine x_sipush k146_8 (by decide +kernel) ?_
    exact x_iret k146_11 rfl ⟨hG0, f0, (-1001), rfl, ⟨by decide, by decide⟩, (by unfold MkR; exact Or.inl ⟨by omega, rfl, rfl, rfl, rfl⟩), i0_J⟩
theorem E_X10_end_0 (s0 : xS) (hG0 : GI s0) (a : Int) (b_a : (-2147483648) ≤ a ∧ a ≤ 2147483647) (b : Int) (b_b : (-2147483648) ≤ b ∧ b ≤ 2147483647) (p_1_4 : 1 ≤ s0 1 4 ∧ s0 1 4 ≤ 40) (p_0_10 : 0 ≤ s0 0 10 ∧ s0 0 10 ≤ 9) : xe none 94 0 (lv_args 0 [.ref 0, vi a, vi b]) [] s0 0 0 (fun s' v => GI s' ∧ FL [192, 256, 3276, 3277] s0 s' ∧ ∃ z, v = some (vi z) ∧ ((-1004) ≤ z ∧ z ≤ 39) ∧ (EnC s0 s' a b)) := by
  have f0 : FL [192, 256, 3276, 3277] s0 s0 := FL.rf
  show xe none 94 0 [(0, .ref 0), (1, vi a), (2, vi b)] [] s0 0 0 _
  obtain ⟨z1, e_z1⟩ : ∃ z, z = s0 1 4 := ⟨_, rfl⟩
  have g_z1 : (1 : Int) ≤ s0 1 4 ∧ s0 1 4 ≤ 40 := hG0 1 4
  obtain ⟨z2, e_z2⟩ : ∃ z, z = s0 0 10 := ⟨_, rfl⟩
  have g_z2 : (0 : Int) ≤ s0 0 10 ∧ s0 0 10 ≤ 9 := hG0 0 10
  refine x_A k94_0 (fun _ => rfl) ?_
  refine x_getR k94_1 (f := 0) rfl (q := 0) (n := 12) (kd := 3) ⟨by decide, rfl⟩ (q2 := 1) (by decide) rfl ?_
  refine x_A k94_4 (fun _ => rfl) ?_
  refine x_callV k94_5 (y := 59) (n := 1) (w0 := 0) (w1 := 1) (as := [vi a]) (rest := []) (by decide +kernel) (q := 1) (nq := 5) (kq := 4) ⟨by decide, rfl⟩ rfl rfl rfl rfl (xe_mono (C_X7_has_1 s0 hG0 a (by first | exact x_rb b_a rfl rfl | exact ⟨by omega, by omega⟩)) ?_)
  rintro s4 v ⟨h_s4, z3, rfl, hz_z3⟩
  rw [h_s4]
  rcases hz_z3 with ⟨c_z3, e_z3⟩ | ⟨c_z3, e_z3⟩
  · rw [e_z3]
    show xe none 94 8 [(0, .ref 0), (1, vi a), (2, vi b)] [vi 1] s0 0 0 _
    refine x_if_eq k94_8 (t := 27) rfl ⟨by decide, by decide⟩ (fun c5 => by exfalso; omega) (fun c5 => ?_)
    refine x_A k94_11 (fun _ => rfl) ?_
    refine x_A k94_12 (fun _ => rfl) ?_
    refine x_ic_eq k94_13 (t := 31) rfl (by first | exact x_rb b_b rfl rfl | exact ⟨by omega, by omega⟩) ⟨by decide, by decide⟩ (fun c6 => ?_) (fun c6 => ?_)
    · skip
      refine x_A k94_31 (fun _ => rfl) ?_
      refine x_if_eq k94_32 (t := 55) rfl (by first | exact x_rb b_a rfl rfl | exact ⟨by omega, by omega⟩) (fun c7 => ?_) (fun c7 => ?_)
      · skip
        refine x_sipush k94_55 (by decide +kernel) ?_
        exact x_iret k94_58 rfl ⟨hG0, f0, (-1003), rfl, ⟨by decide, by decide⟩, (by unfold EnC; exact Or.inr (Or.inl ⟨by omega, by omega, rfl⟩))⟩
      · skip
        refine x_A k94_35 (fun _ => rfl) ?_
        refine x_A k94_36 (fun _ => rfl) ?_
        refine x_ic_eq k94_37 (t := 55) rfl (by first | exact x_rb b_a rfl rfl | exact ⟨by omega, by omega⟩) (by first | exact x_rb b_b rfl rfl | exact ⟨by omega, by omega⟩) (fun c8 => by exfalso; omega) (fun c8 => ?_)
        refine x_A k94_40 (fun _ => rfl) ?_
        refine x_getR k94_41 (f := 0) rfl (q := 0) (n := 12) (kd := 3) ⟨by decide, rfl⟩ (q2 := 1) (by decide) rfl ?_
        refine x_A k94_44 (fun _ => rfl) ?_
        refine x_A k94_45 (fun _ => rfl) ?_
        refine x_getI k94_46 (f := 10) rfl (q := 0) (n := 12) (kd := 3) ⟨by decide, rfl⟩ (by decide) rfl ?_
        refine x_rw (e_z2.symm) ?_
        refine x_callV k94_49 (y := 64) (n := 2) (w0 := 0) (w1 := 2) (as := [vi a, vi z2]) (rest := []) (by decide +kernel) (q := 1) (nq := 5) (kq := 4) ⟨by decide, rfl⟩ rfl rfl rfl rfl (xe_mono (E_X7_isThere_1 s0 hG0 a (by first | exact x_rb b_a rfl rfl | exact ⟨by omega, by omega⟩) z2 (by first | exact x_rbe e_z2 g_z2 rfl rfl | exact x_rb g_z2 rfl rfl | exact ⟨by omega, by omega⟩)) ?_)
        rintro s10 v ⟨h_s10, z9, rfl, hz_z9⟩
        rw [h_s10]
        rcases hz_z9 with ⟨c_z9, e_z9, m_z9⟩ | ⟨e_z9, m_z9⟩
        · rw [e_z9]
          show xe none 94 52 [(0, .ref 0), (1, vi a), (2, vi b)] [vi 1] s0 0 0 _
          refine x_if_ne k94_52 (t := 59) rfl ⟨by decide, by decide⟩ (fun c11 => ?_) (fun c11 => by exfalso; omega)
          refine x_A k94_59 (fun _ => rfl) ?_
          refine x_A k94_60 (fun _ => rfl) ?_
          refine x_ic_eq k94_61 (t := 83) rfl (by first | exact x_rb b_b rfl rfl | exact ⟨by omega, by omega⟩) ⟨by decide, by decide⟩ (fun c12 => ?_) (fun c12 => by exfalso; omega)
          refine x_A k94_83 (fun _ => rfl) ?_
          refine x_getR k94_84 (f := 9) rfl (q := 0) (n := 12) (kd := 3) ⟨by decide, rfl⟩ (q2 := 243) (by decide) rfl ?_
          refine x_callV k94_87 (y := 73) (n := 0) (w0 := 0) (w1 := 0) (as := []) (rest := []) (by decide +kernel) (q := 243) (nq := 13) (kq := 13) ⟨by decide, rfl⟩ rfl rfl rfl rfl (xe_mono (C_X8_forget_243 s0 hG0) ?_)
          rintro s14 v ⟨hG_s14, t_s14, rfl⟩
          have f_s14 : FL [192, 256, 3276, 3277] s0 s14 := f0.tr t_s14 (by decide +kernel)
          have q15 : s14 1 4 = z1 := (t_s14 1 4 (show 69 ∉ [3276, 3277] from by decide +kernel)).trans e_z1.symm
          have q16 : s14 0 10 = z2 := (t_s14 0 10 (show 11 ∉ [3276, 3277] from by decide +kernel)).trans e_z2.symm
          show xe none 94 90 [(0, .ref 0), (1, vi a), (2, vi b)] [] s14 0 0 _
          have F3 : s14 3 = s0 3 := funext fun i => t_s14 3 i (show 192 ∉ _ from by decide)
          refine x_A k94_90 (fun _ => rfl) ?_
          refine x_getR k94_91 (f := 0) rfl (q := 0) (n := 12) (kd := 3) ⟨by decide, rfl⟩ (q2 := 1) (by decide) rfl ?_
          refine x_getR k94_94 (f := 1) rfl (q := 1) (n := 5) (kd := 4) ⟨by decide, rfl⟩ (q2 := 3) (by decide) rfl ?_
          refine x_A k94_97 (fun _ => rfl) ?_
          refine x_A k94_98 (fun _ => rfl) ?_
          refine x_getI k94_99 (f := 10) rfl (q := 0) (n := 12) (kd := 3) ⟨by decide, rfl⟩ (by decide) rfl ?_
          refine x_rw (q16) ?_
          refine x_iast k94_102 (q := 3) (n := 40) ⟨by decide, rfl⟩ (by decide) (by first | exact x_rbl b_a rfl rfl | exact ⟨by omega, by omega⟩) ?_
          refine x_nh (fun s17 e_s17 => ?_)
          have hG_s17 : GI s17 := by rw [e_s17]; exact hG_s14.up (show (-1) ≤ z2 ∧ z2 ≤ 9 from (by first | exact x_rbe e_z2 g_z2 rfl rfl | exact x_rb g_z2 rfl rfl | exact ⟨by omega, by omega⟩))
          have f_s17 : FL [192, 256, 3276, 3277] s0 s17 := by rw [e_s17]; exact f_s14.up (show 192 ∈ [192, 256, 3276, 3277] from by decide +kernel)
          have q18 : s17 1 4 = z1 := by rw [e_s17, x_up_q (by decide)]; exact q15
          have q19 : s17 0 10 = z2 := by rw [e_s17, x_up_q (by decide)]; exact q16
          have q20 : s17 3 a.toNat = z2 := by rw [e_s17]; exact x_up_same
          refine x_A k94_103 (fun _ => rfl) ?_
          refine x_getR k94_104 (f := 0) rfl (q := 0) (n := 12) (kd := 3) ⟨by decide, rfl⟩ (q2 := 1) (by decide) rfl ?_
          refine x_getR k94_107 (f := 2) rfl (q := 1) (n := 5) (kd := 4) ⟨by decide, rfl⟩ (q2 := 4) (by decide) rfl ?_
          refine x_A k94_110 (fun _ => rfl) ?_
          refine x_A k94_111 (fun _ => rfl) ?_
          refine x_iast k94_112 (q := 4) (n := 40) ⟨by decide, rfl⟩ (by decide) (by first | exact x_rbl b_a rfl rfl | exact ⟨by omega, by omega⟩) ?_
          refine x_nh (fun s21 e_s21 => ?_)
          have hG_s21 : GI s21 := by rw [e_s21]; exact hG_s17.up (show (-1) ≤ b ∧ b ≤ 39 from (by first | exact x_rb b_b rfl rfl | exact ⟨by omega, by omega⟩))
          have f_s21 : FL [192, 256, 3276, 3277] s0 s21 := by rw [e_s21]; exact f_s17.up (show 256 ∈ [192, 256, 3276, 3277] from by decide +kernel)
          have q22 : s21 1 4 = z1 := by rw [e_s21, x_up_q (by decide)]; exact q18
          have q23 : s21 0 10 = z2 := by rw [e_s21, x_up_q (by decide)]; exact q19
          have q24 : s21 3 a.toNat = z2 := by rw [e_s21, x_up_q (by first | decide | omega)]; exact q20
          have q25 : s21 4 a.toNat = b := by rw [e_s21]; exact x_up_same
          refine x_A k94_113 (fun _ => rfl) ?_
          refine x_getR k94_114 (f := 0) rfl (q := 0) (n := 12) (kd := 3) ⟨by decide, rfl⟩ (q2 := 1) (by decide) rfl ?_
          refine x_A k94_117 (fun _ => rfl) ?_
          refine x_A k94_118 (fun _ => rfl) ?_
          refine x_getI k94_119 (f := 10) rfl (q := 0) (n := 12) (kd := 3) ⟨by decide, rfl⟩ (by decide) rfl ?_
          refine x_rw (q23) ?_
          refine x_callV k94_122 (y := 67) (n := 2) (w0 := 0) (w1 := 2) (as := [vi a, vi z2]) (rest := []) (by decide +kernel) (q := 1) (nq := 5) (kq := 4) ⟨by decide, rfl⟩ rfl rfl rfl rfl (xe_mono (C_X7_countBelow_1 s21 hG_s21 a (by first | exact x_rb b_a rfl rfl | exact ⟨by omega, by omega⟩) z2 (by first | exact x_rbe e_z2 g_z2 rfl rfl | exact x_rb g_z2 rfl rfl | exact ⟨by omega, by omega⟩)) ?_)
          rintro s27 v ⟨-, t_s27, z26, rfl, g_z26⟩
          rw [t_s27.nil]
          show xe none 94 125 [(0, .ref 0), (1, vi a), (2, vi b)] [vi z26] s21 0 0 _
          refine x_A k94_125 (fun _ => rfl) ?_
          refine x_isub k94_126 ?_
          refine x_top (fun z28 e_z28 => ?_)
          exact x_iret k94_127 rfl ⟨hG_s21, f_s21, z28, rfl, (by first | exact x_rbe e_z28 g_z28 rfl rfl | exact x_rb g_z28 rfl rfl | exact ⟨by omega, by omega⟩), (by unfold EnC; exact Or.inr (Or.inr ⟨by omega, by omega, fun j => by rw [e_s21, x_up_q (by decide), e_s17, x_up_at, show z2 = s0 0 10 by omega, F3]⟩))⟩
        · rw [e_z9]
          show xe none 94 52 [(0, .ref 0), (1, vi a), (2, vi b)] [vi 0] s0 0 0 _
          refine x_if_ne k94_52 (t := 59) rfl ⟨by decide, by decide⟩ (fun c29 => by exfalso; omega) (fun c29 => ?_)
          refine x_sipush k94_55 (by decide +kernel) ?_
          exact x_iret k94_58 rfl ⟨hG0, f0, (-1003), rfl, ⟨by decide, by decide⟩, (by unfold EnC; exact Or.inr (Or.inl ⟨by omega, by omega, rfl⟩))⟩
    · skip
      refine x_A k94_16 (fun _ => rfl) ?_
      refine x_getR k94_17 (f := 0) rfl (q := 0) (n := 12) (kd := 3) ⟨by decide, rfl⟩ (q2 := 1) (by decide) rfl ?_
      refine x_A k94_20 (fun _ => rfl) ?_
      refine x_callV k94_21 (y := 59) (n := 1) (w0 := 0) (w1 := 1) (as := [vi b]) (rest := []) (by decide +kernel) (q := 1) (nq := 5) (kq := 4) ⟨by decide, rfl⟩ rfl rfl rfl rfl (xe_mono (C_X7_has_1 s0 hG0 b (by first | exact x_rb b_b rfl rfl | exact ⟨by omega, by omega⟩)) ?_)
      rintro s31 v ⟨h_s31, z30, rfl, hz_z30⟩
      rw [h_s31]
      rcases hz_z30 with ⟨c_z30, e_z30⟩ | ⟨c_z30, e_z30⟩
      · rw [e_z30]
        show xe none 94 24 [(0, .ref 0), (1, vi a), (2, vi b)] [vi 1] s0 0 0 _
        refine x_if_ne k94_24 (t := 31) rfl ⟨by decide, by decide⟩ (fun c32 => ?_) (fun c32 => by exfalso; omega)
        refine x_A k94_31 (fun _ => rfl) ?_
        refine x_if_eq k94_32 (t := 55) rfl (by first | exact x_rb b_a rfl rfl | exact ⟨by omega, by omega⟩) (fun c33 => ?_) (fun c33 => ?_)
        · skip
          refine x_sipush k94_55 (by decide +kernel) ?_
          exact x_iret k94_58 rfl ⟨hG0, f0, (-1003), rfl, ⟨by decide, by decide⟩, (by unfold EnC; exact Or.inr (Or.inl ⟨by omega, by omega, rfl⟩))⟩
        · skip
          refine x_A k94_35 (fun _ => rfl) ?_
          refine x_A k94_36 (fun _ => rfl) ?_
          refine x_ic_eq k94_37 (t := 55) rfl (by first | exact x_rb b_a rfl rfl | exact ⟨by omega, by omega⟩) (by first | exact x_rb b_b rfl rfl | exact ⟨by omega, by omega⟩) (fun c34 => ?_) (fun c34 => ?_)
          · skip
            refine x_sipush k94_55 (by decide +kernel) ?_
            exact x_iret k94_58 rfl ⟨hG0, f0, (-1003), rfl, ⟨by decide, by decide⟩, (by unfold EnC; exact Or.inr (Or.inl ⟨by omega, by omega, rfl⟩))⟩
          · skip
            refine x_A k94_40 (fun _ => rfl) ?_
            refine x_getR k94_41 (f := 0) rfl (q := 0) (n := 12) (kd := 3) ⟨by decide, rfl⟩ (q2 := 1) (by decide) rfl ?_
            refine x_A k94_44 (fun _ => rfl) ?_
            refine x_A k94_45 (fun _ => rfl) ?_
            refine x_getI k94_46 (f := 10) rfl (q := 0) (n := 12) (kd := 3) ⟨by decide, rfl⟩ (by decide) rfl ?_
            refine x_rw (e_z2.symm) ?_
            refine x_callV k94_49 (y := 64) (n := 2) (w0 := 0) (w1 := 2) (as := [vi a, vi z2]) (rest := []) (by decide +kernel) (q := 1) (nq := 5) (kq := 4) ⟨by decide, rfl⟩ rfl rfl rfl rfl (xe_mono (E_X7_isThere_1 s0 hG0 a (by first | exact x_rb b_a rfl rfl | exact ⟨by omega, by omega⟩) z2 (by first | exact x_rbe e_z2 g_z2 rfl rfl | exact x_rb g_z2 rfl rfl | exact ⟨by omega, by omega⟩)) ?_)
            rintro s36 v ⟨h_s36, z35, rfl, hz_z35⟩
            rw [h_s36]
            rcases hz_z35 with ⟨c_z35, e_z35, m_z35⟩ | ⟨e_z35, m_z35⟩
            · rw [e_z35]
              show xe none 94 52 [(0, .ref 0), (1, vi a), (2, vi b)] [vi 1] s0 0 0 _
              refine x_if_ne k94_52 (t := 59) rfl ⟨by decide, by decide⟩ (fun c37 => ?_) (fun c37 => by exfalso; omega)
              refine x_A k94_59 (fun _ => rfl) ?_
              refine x_A k94_60 (fun _ => rfl) ?_
              refine x_ic_eq k94_61 (t := 83) rfl (by first | exact x_rb b_b rfl rfl | exact ⟨by omega, by omega⟩) ⟨by decide, by decide⟩ (fun c38 => by exfalso; omega) (fun c38 => ?_)
              refine x_A k94_64 (fun _ => rfl) ?_
              refine x_getR k94_65 (f := 0) rfl (q := 0) (n := 12) (kd := 3) ⟨by decide, rfl⟩ (q2 := 1) (by decide) rfl ?_
              refine x_A k94_68 (fun _ => rfl) ?_
              refine x_A k94_69 (fun _ => rfl) ?_
              refine x_getI k94_70 (f := 10) rfl (q := 0) (n := 12) (kd := 3) ⟨by decide, rfl⟩ (by decide) rfl ?_
              refine x_rw (e_z2.symm) ?_
              refine x_callV k94_73 (y := 64) (n := 2) (w0 := 0) (w1 := 2) (as := [vi b, vi z2]) (rest := []) (by decide +kernel) (q := 1) (nq := 5) (kq := 4) ⟨by decide, rfl⟩ rfl rfl rfl rfl (xe_mono (E_X7_isThere_1 s0 hG0 b (by first | exact x_rb b_b rfl rfl | exact ⟨by omega, by omega⟩) z2 (by first | exact x_rbe e_z2 g_z2 rfl rfl | exact x_rb g_z2 rfl rfl | exact ⟨by omega, by omega⟩)) ?_)
              rintro s40 v ⟨h_s40, z39, rfl, hz_z39⟩
              rw [h_s40]
              rcases hz_z39 with ⟨c_z39, e_z39, m_z39⟩ | ⟨e_z39, m_z39⟩
              · rw [e_z39]
                show xe none 94 76 [(0, .ref 0), (1, vi a), (2, vi b)] [vi 1] s0 0 0 _
                refine x_if_ne k94_76 (t := 83) rfl ⟨by decide, by decide⟩ (fun c41 => ?_) (fun c41 => by exfalso; omega)
                refine x_A k94_83 (fun _ => rfl) ?_
                refine x_getR k94_84 (f := 9) rfl (q := 0) (n := 12) (kd := 3) ⟨by decide, rfl⟩ (q2 := 243) (by decide) rfl ?_
                refine x_callV k94_87 (y := 73) (n := 0) (w0 := 0) (w1 := 0) (as := []) (rest := []) (by decide +kernel) (q := 243) (nq := 13) (kq := 13) ⟨by decide, rfl⟩ rfl rfl rfl rfl (xe_mono (C_X8_forget_243 s0 hG0) ?_)
                rintro s43 v ⟨hG_s43, t_s43, rfl⟩
                have f_s43 : FL [192, 256, 3276, 3277] s0 s43 := f0.tr t_s43 (by decide +kernel)
                have q44 : s43 1 4 = z1 := (t_s43 1 4 (show 69 ∉ [3276, 3277] from by decide +kernel)).trans e_z1.symm
                have q45 : s43 0 10 = z2 := (t_s43 0 10 (show 11 ∉ [3276, 3277] from by decide +kernel)).trans e_z2.symm
                show xe none 94 90 [(0, .ref 0), (1, vi a), (2, vi b)] [] s43 0 0 _
                have F3 : s43 3 = s0 3 := funext fun i => t_s43 3 i (show 192 ∉ _ from by decide)
                refine x_A k94_90 (fun _ => rfl) ?_
                refine x_getR k94_91 (f := 0) rfl (q := 0) (n := 12) (kd := 3) ⟨by decide, rfl⟩ (q2 := 1) (by decide) rfl ?_
                refine x_getR k94_94 (f := 1) rfl (q := 1) (n := 5) (kd := 4) ⟨by decide, rfl⟩ (q2 := 3) (by decide) rfl ?_
                refine x_A k94_97 (fun _ => rfl) ?_
                refine x_A k94_98 (fun _ => rfl) ?_
                refine x_getI k94_99 (f := 10) rfl (q := 0) (n := 12) (kd := 3) ⟨by decide, rfl⟩ (by decide) rfl ?_
                refine x_rw (q45) ?_
                refine x_iast k94_102 (q := 3) (n := 40) ⟨by decide, rfl⟩ (by decide) (by first | exact x_rbl b_a rfl rfl | exact ⟨by omega, by omega⟩) ?_
                refine x_nh (fun s46 e_s46 => ?_)
                have hG_s46 : GI s46 := by rw [e_s46]; exact hG_s43.up (show (-1) ≤ z2 ∧ z2 ≤ 9 from (by first | exact x_rbe e_z2 g_z2 rfl rfl | exact x_rb g_z2 rfl rfl | exact ⟨by omega, by omega⟩))
                have f_s46 : FL [192, 256, 3276, 3277] s0 s46 := by rw [e_s46]; exact f_s43.up (show 192 ∈ [192, 256, 3276, 3277] from by decide +kernel)
                have q47 : s46 1 4 = z1 := by rw [e_s46, x_up_q (by decide)]; exact q44
                have q48 : s46 0 10 = z2 := by rw [e_s46, x_up_q (by decide)]; exact q45
                have q49 : s46 3 a.toNat = z2 := by rw [e_s46]; exact x_up_same
                refine x_A k94_103 (fun _ => rfl) ?_
                refine x_getR k94_104 (f := 0) rfl (q := 0) (n := 12) (kd := 3) ⟨by decide, rfl⟩ (q2 := 1) (by decide) rfl ?_
                refine x_getR k94_107 (f := 2) rfl (q := 1) (n := 5) (kd := 4) ⟨by decide, rfl⟩ (q2 := 4) (by decide) rfl ?_
                refine x_A k94_110 (fun _ => rfl) ?_
                refine x_A k94_111 (fun _ => rfl) ?_
                refine x_iast k94_112 (q := 4) (n := 40) ⟨by decide, rfl⟩ (by decide) (by first | exact x_rbl b_a rfl rfl | exact ⟨by omega, by omega⟩) ?_
                refine x_nh (fun s50 e_s50 => ?_)
                have hG_s50 : GI s50 := by rw [e_s50]; exact hG_s46.up (show (-1) ≤ b ∧ b ≤ 39 from (by first | exact x_rb b_b rfl rfl | exact ⟨by omega, by omega⟩))
                have f_s50 : FL [192, 256, 3276, 3277] s0 s50 := by rw [e_s50]; exact f_s46.up (show 256 ∈ [192, 256, 3276, 3277] from by decide +kernel)
                have q51 : s50 1 4 = z1 := by rw [e_s50, x_up_q (by decide)]; exact q47
                have q52 : s50 0 10 = z2 := by rw [e_s50, x_up_q (by decide)]; exact q48
                have q53 : s50 3 a.toNat = z2 := by rw [e_s50, x_up_q (by first | decide | omega)]; exact q49
                have q54 : s50 4 a.toNat = b := by rw [e_s50]; exact x_up_same
                refine x_A k94_113 (fun _ => rfl) ?_
                refine x_getR k94_114 (f := 0) rfl (q := 0) (n := 12) (kd := 3) ⟨by decide, rfl⟩ (q2 := 1) (by decide) rfl ?_
                refine x_A k94_117 (fun _ => rfl) ?_
                refine x_A k94_118 (fun _ => rfl) ?_
                refine x_getI k94_119 (f := 10) rfl (q := 0) (n := 12) (kd := 3) ⟨by decide, rfl⟩ (by decide) rfl ?_
                refine x_rw (q52) ?_
                refine x_callV k94_122 (y := 67) (n := 2) (w0 := 0) (w1 := 2) (as := [vi a, vi z2]) (rest := []) (by decide +kernel) (q := 1) (nq := 5) (kq := 4) ⟨by decide, rfl⟩ rfl rfl rfl rfl (xe_mono (C_X7_countBelow_1 s50 hG_s50 a (by first | exact x_rb b_a rfl rfl | exact ⟨by omega, by omega⟩) z2 (by first | exact x_rbe e_z2 g_z2 rfl rfl | exact x_rb g_z2 rfl rfl | exact ⟨by omega, by omega⟩)) ?_)
                rintro s56 v ⟨-, t_s56, z55, rfl, g_z55⟩
                rw [t_s56.nil]
                show xe none 94 125 [(0, .ref 0), (1, vi a), (2, vi b)] [vi z55] s50 0 0 _
                refine x_A k94_125 (fun _ => rfl) ?_
                refine x_isub k94_126 ?_
                refine x_top (fun z57 e_z57 => ?_)
                exact x_iret k94_127 rfl ⟨hG_s50, f_s50, z57, rfl, (by first | exact x_rbe e_z57 g_z57 rfl rfl | exact x_rb g_z57 rfl rfl | exact ⟨by omega, by omega⟩), (by unfold EnC; exact Or.inr (Or.inr ⟨by omega, by omega, fun j => by rw [e_s50, x_up_q (by decide), e_s46, x_up_at, show z2 = s0 0 10 by omega, F3]⟩))⟩
              · rw [e_z39]
                show xe none 94 76 [(0, .ref 0), (1, vi a), (2, vi b)] [vi 0] s0 0 0 _
                refine x_if_ne k94_76 (t := 83) rfl ⟨by decide, by decide⟩ (fun c58 => by exfalso; omega) (fun c58 => ?_)
                refine x_sipush k94_79 (by decide +kernel) ?_
                exact x_iret k94_82 rfl ⟨hG0, f0, (-1003), rfl, ⟨by decide, by decide⟩, (by unfold EnC; exact Or.inr (Or.inl ⟨by omega, by omega, rfl⟩))⟩
            · rw [e_z35]
              show xe none 94 52 [(0, .ref 0), (1, vi a), (2, vi b)] [vi 0] s0 0 0 _
              refine x_if_ne k94_52 (t := 59) rfl ⟨by decide, by decide⟩ (fun c59 => by exfalso; omega) (fun c59 => ?_)
              refine x_sipush k94_55 (by decide +kernel) ?_
              exact x_iret k94_58 rfl ⟨hG0, f0, (-1003), rfl, ⟨by decide, by decide⟩, (by unfold EnC; exact Or.inr (Or.inl ⟨by omega, by omega, rfl⟩))⟩
      · rw [e_z30]
        show xe none 94 24 [(0, .ref 0), (1, vi a), (2, vi b)] [vi 0] s0 0 0 _
        refine x_if_ne k94_24 (t := 31) rfl ⟨by decide, by decide⟩ (fun c60 => by exfalso; omega) (fun c60 => ?_)
        refine x_sipush k94_27 (by decide +kernel) ?_
        exact x_iret k94_30 rfl ⟨hG0, f0, (-1001), rfl, ⟨by decide, by decide⟩, (by unfold EnC; exact Or.inl ⟨by omega, rfl⟩)⟩
  · rw [e_z3]
    show xe none 94 8 [(0, .ref 0), (1, vi a), (2, vi b)] [vi 0] s0 0 0 _
    refine x_if_eq k94_8 (t := 27) rfl ⟨by decide, by decide⟩ (fun c61 => ?_) (fun c61 => by exfalso; omega)
    refine x_sipush k94_27 (by decide +kernel) ?_
    exact x_iret k94_30 rfl ⟨hG0, f0, (-1001), rfl, ⟨by decide, by decide⟩, (by unfold EnC; exact Or.inl ⟨by omega, rfl⟩)⟩
theorem E_X11_end_256 (s0 : xS) (hG0 : GI s0) (a : Int) (b_a : (-2147483648) ≤ a ∧ a ≤ 2147483647) (b : Int) (b_b : (-2147483648) ≤ b ∧ b ≤ 2147483647) (p_256_1 : 1 ≤ s0 256 1 ∧ s0 256 1 ≤ 40) (p_256_0 : 0 ≤ s0 256 0 ∧ s0 256 0 ≤ 9) (i0_J : J s0) : xe none 148 0 (lv_args 0 [.ref 256, vi a, vi b]) [] s0 0 0 (fun s' v => GI s' ∧ FL [4224, 4288] s0 s' ∧ ∃ z, v = some (vi z) ∧ ((-1004) ≤ z ∧ z ≤ 39) ∧ (EnR s0 s' a b) ∧ J s') := by
  have f0 : FL [4224, 4288] s0 s0 := FL.rf
  show xe none 148 0 [(0, .ref 256), (1, vi a), (2, vi b)] [] s0 0 0 _
  obtain ⟨z1, e_z1⟩ : ∃ z, z = s0 256 1 := ⟨_, rfl⟩
  have g_z1 : (1 : Int) ≤ s0 256 1 ∧ s0 256 1 ≤ 40 := hG0 256 1
  obtain ⟨z2, e_z2⟩ : ∃ z, z = s0 256 0 := ⟨_, rfl⟩
  have g_z2 : (0 : Int) ≤ s0 256 0 ∧ s0 256 0 ≤ 9 := hG0 256 0
  refine x_A k148_0 (fun _ => rfl) ?_
  refine x_A k148_1 (fun _ => rfl) ?_
  refine x_callV k148_2 (y := 137) (n := 1) (w0 := 0) (w1 := 1) (as := [vi a]) (rest := []) (by decide +kernel) (q := 256) (nq := 62) (kq := 15) ⟨by decide, rfl⟩ rfl rfl rfl rfl (xe_mono (C_X11_isMark_256 s0 hG0 a (by first | exact x_rb b_a rfl rfl | exact ⟨by omega, by omega⟩)) ?_)
  rintro s4 v ⟨h_s4, z3, rfl, hz_z3⟩
  rw [h_s4]
  rcases hz_z3 with ⟨c_z3, e_z3⟩ | ⟨c_z3, e_z3⟩
  · rw [e_z3]
    show xe none 148 5 [(0, .ref 256), (1, vi a), (2, vi b)] [vi 1] s0 0 0 _
    refine x_if_eq k148_5 (t := 21) rfl ⟨by decide, by decide⟩ (fun c5 => by exfalso; omega) (fun c5 => ?_)
    refine x_A k148_8 (fun _ => rfl) ?_
    refine x_A k148_9 (fun _ => rfl) ?_
    refine x_ic_eq k148_10 (t := 25) rfl (by first | exact x_rb b_b rfl rfl | exact ⟨by omega, by omega⟩) ⟨by decide, by decide⟩ (fun c6 => ?_) (fun c6 => ?_)
    · skip
      refine x_A k148_25 (fun _ => rfl) ?_
      refine x_if_eq k148_26 (t := 63) rfl (by first | exact x_rb b_a rfl rfl | exact ⟨by omega, by omega⟩) (fun c7 => ?_) (fun c7 => ?_)
      · skip
        refine x_sipush k148_63 (by decide +kernel) ?_
        exact x_iret k148_66 rfl ⟨hG0, f0, (-1003), rfl, ⟨by decide, by decide⟩, (by unfold EnR; exact Or.inr (Or.inl ⟨by omega, by omega, rfl⟩)), i0_J⟩
      · skip
        refine x_A k148_29 (fun _ => rfl) ?_
        refine x_A k148_30 (fun _ => rfl) ?_
        refine x_ic_eq k148_31 (t := 63) rfl (by first | exact x_rb b_a rfl rfl | exact ⟨by omega, by omega⟩) (by first | exact x_rb b_b rfl rfl | exact ⟨by omega, by omega⟩) (fun c8 => by exfalso; omega) (fun c8 => ?_)
        refine x_A k148_34 (fun _ => rfl) ?_
        refine x_A k148_35 (fun _ => rfl) ?_
        refine x_A k148_36 (fun _ => rfl) ?_
        refine x_getI k148_37 (f := 0) rfl (q := 256) (n := 62) (kd := 15) ⟨by decide, rfl⟩ (by decide) rfl ?_
        refine x_rw (e_z2.symm) ?_
        refine x_callV k148_40 (y := 142) (n := 2) (w0 := 0) (w1 := 2) (as := [vi a, vi z2]) (rest := []) (by decide +kernel) (q := 256) (nq := 62) (kq := 15) ⟨by decide, rfl⟩ rfl rfl rfl rfl (xe_mono (C_X11_isThere_256 s0 hG0 a (by first | exact x_rb b_a rfl rfl | exact ⟨by omega, by omega⟩) z2 (by first | exact x_rbe e_z2 g_z2 rfl rfl | exact x_rb g_z2 rfl rfl | exact ⟨by omega, by omega⟩)) ?_)
        rintro s10 v ⟨h_s10, z9, rfl, hz_z9⟩
        rw [h_s10]
        rcases hz_z9 with ⟨c_z9, e_z9, m_z9⟩ | ⟨e_z9, m_z9⟩
        · rw [e_z9]
          show xe none 148 43 [(0, .ref 256), (1, vi a), (2, vi b)] [vi 1] s0 0 0 _
          refine x_if_eq k148_43 (t := 63) rfl ⟨by decide, by decide⟩ (fun c11 => by exfalso; omega) (fun c11 => ?_)
          refine x_A k148_46 (fun _ => rfl) ?_
          refine x_A k148_47 (fun _ => rfl) ?_
          refine x_ic_eq k148_48 (t := 67) rfl (by first | exact x_rb b_b rfl rfl | exact ⟨by omega, by omega⟩) ⟨by decide, by decide⟩ (fun c12 => ?_) (fun c12 => by exfalso; omega)
          refine x_A k148_67 (fun _ => rfl) ?_
          refine x_getR k148_68 (f := 3) rfl (q := 256) (n := 62) (kd := 15) ⟨by decide, rfl⟩ (q2 := 258) (by decide) rfl ?_
          refine x_A k148_71 (fun _ => rfl) ?_
          refine x_A k148_72 (fun _ => rfl) ?_
          refine x_getI k148_73 (f := 0) rfl (q := 256) (n := 62) (kd := 15) ⟨by decide, rfl⟩ (by decide) rfl ?_
          refine x_rw (e_z2.symm) ?_
          refine x_iast k148_76 (q := 258) (n := 40) ⟨by decide, rfl⟩ (by decide) (by first | exact x_rbl b_a rfl rfl | exact ⟨by omega, by omega⟩) ?_
          refine x_nh (fun s13 e_s13 => ?_)
          have hG_s13 : GI s13 := by rw [e_s13]; exact hG0.up (show (-1) ≤ z2 ∧ z2 ≤ 9 from (by first | exact x_rbe e_z2 g_z2 rfl rfl | exact x_rb g_z2 rfl rfl | exact ⟨by omega, by omega⟩))
          have f_s13 : FL [4224, 4288] s0 s13 := by rw [e_s13]; exact f0.up (show 4224 ∈ [4224, 4288] from by decide +kernel)
          have q14 : s13 256 1 = z1 := by rw [e_s13, x_up_q (by decide)]; exact e_z1.symm
          have q15 : s13 256 0 = z2 := by rw [e_s13, x_up_q (by decide)]; exact e_z2.symm
          have q16 : s13 258 a.toNat = z2 := by rw [e_s13]; exact x_up_same
          refine x_A k148_77 (fun _ => rfl) ?_
          refine x_getR k148_78 (f := 4) rfl (q := 256) (n := 62) (kd := 15) ⟨by decide, rfl⟩ (q2 := 259) (by decide) rfl ?_
          refine x_A k148_81 (fun _ => rfl) ?_
          refine x_A k148_82 (fun _ => rfl) ?_
          refine x_iast k148_83 (q := 259) (n := 40) ⟨by decide, rfl⟩ (by decide) (by first | exact x_rbl b_a rfl rfl | exact ⟨by omega, by omega⟩) ?_
          refine x_nh (fun s17 e_s17 => ?_)
          have hG_s17 : GI s17 := by rw [e_s17]; exact hG_s13.up (show (-1) ≤ b ∧ b ≤ 39 from (by first | exact x_rb b_b rfl rfl | exact ⟨by omega, by omega⟩))
          have f_s17 : FL [4224, 4288] s0 s17 := by rw [e_s17]; exact f_s13.up (show 4288 ∈ [4224, 4288] from by decide +kernel)
          have q18 : s17 256 1 = z1 := by rw [e_s17, x_up_q (by decide)]; exact q14
          have q19 : s17 256 0 = z2 := by rw [e_s17, x_up_q (by decide)]; exact q15
          have q20 : s17 258 a.toNat = z2 := by rw [e_s17, x_up_q (by first | decide | omega)]; exact q16
          have q21 : s17 259 a.toNat = b := by rw [e_s17]; exact x_up_same
          have J_e : J s17 := by rw [e_s17, e_s13]; exact J.end i0_J hG0 e_z2 ⟨by omega, by omega⟩ (by omega) (by omega)
          refine x_A k148_84 (fun _ => rfl) ?_
          refine x_A k148_85 (fun _ => rfl) ?_
          refine x_A k148_86 (fun _ => rfl) ?_
          refine x_getI k148_87 (f := 0) rfl (q := 256) (n := 62) (kd := 15) ⟨by decide, rfl⟩ (by decide) rfl ?_
          refine x_rw (q19) ?_
          refine x_callV k148_90 (y := 144) (n := 2) (w0 := 0) (w1 := 2) (as := [vi a, vi z2]) (rest := []) (by decide +kernel) (q := 256) (nq := 62) (kq := 15) ⟨by decide, rfl⟩ rfl rfl rfl rfl (xe_mono (C_X11_belowMany_256 s17 hG_s17 J_e a (by first | exact x_rb b_a rfl rfl | exact ⟨by omega, by omega⟩) z2 (by first | exact x_rbe e_z2 g_z2 rfl rfl | exact x_rb g_z2 rfl rfl | exact ⟨by omega, by omega⟩)) ?_)
          rintro s23 v ⟨-, t_s23, z22, rfl, g_z22⟩
          rw [t_s23.nil]
          show xe none 148 93 [(0, .ref 256), (1, vi a), (2, vi b)] [vi z22] s17 0 0 _
          refine x_A k148_93 (fun _ => rfl) ?_
          refine x_isub k148_94 ?_
          refine x_top (fun z24 e_z24 => ?_)
          exact x_iret k148_95 rfl ⟨hG_s17, f_s17, z24, rfl, (by first | exact x_rbe e_z24 g_z24 rfl rfl | exact x_rb g_z24 rfl rfl | exact ⟨by omega, by omega⟩), (by unfold EnR; exact Or.inr (Or.inr ⟨by omega, by omega, fun j => by rw [e_s17, x_up_q (by decide), e_s13, x_up_at, show z2 = s0 256 0 by omega]⟩)), J_e⟩
        · rw [e_z9]
          show xe none 148 43 [(0, .ref 256), (1, vi a), (2, vi b)] [vi 0] s0 0 0 _
          refine x_if_eq k148_43 (t := 63) rfl ⟨by decide, by decide⟩ (fun c25 => ?_) (fun c25 => by exfalso; omega)
          refine x_sipush k148_63 (by decide +kernel) ?_
          exact x_iret k148_66 rfl ⟨hG0, f0, (-1003), rfl, ⟨by decide, by decide⟩, (by unfold EnR; exact Or.inr (Or.inl ⟨by omega, by omega, rfl⟩)), i0_J⟩
    · skip
      refine x_A k148_13 (fun _ => rfl) ?_
      refine x_A k148_14 (fun _ => rfl) ?_
      refine x_callV k148_15 (y := 137) (n := 1) (w0 := 0) (w1 := 1) (as := [vi b]) (rest := []) (by decide +kernel) (q := 256) (nq := 62) (kq := 15) ⟨by decide, rfl⟩ rfl rfl rfl rfl (xe_mono (C_X11_isMark_256 s0 hG0 b (by first | exact x_rb b_b rfl rfl | exact ⟨by omega, by omega⟩)) ?_)
      rintro s27 v ⟨h_s27, z26, rfl, hz_z26⟩
      rw [h_s27]
      rcases hz_z26 with ⟨c_z26, e_z26⟩ | ⟨c_z26, e_z26⟩
      · rw [e_z26]
        show xe none 148 18 [(0, .ref 256), (1, vi a), (2, vi b)] [vi 1] s0 0 0 _
        refine x_if_ne k148_18 (t := 25) rfl ⟨by decide, by decide⟩ (fun c28 => ?_) (fun c28 => by exfalso; omega)
        refine x_A k148_25 (fun _ => rfl) ?_
        refine x_if_eq k148_26 (t := 63) rfl (by first | exact x_rb b_a rfl rfl | exact ⟨by omega, by omega⟩) (fun c29 => ?_) (fun c29 => ?_)
        · skip
          refine x_sipush k148_63 (by decide +kernel) ?_
          exact x_iret k148_66 rfl ⟨hG0, f0, (-1003), rfl, ⟨by decide, by decide⟩, (by unfold EnR; exact Or.inr (Or.inl ⟨by omega, by omega, rfl⟩)), i0_J⟩
        · skip
          refine x_A k148_29 (fun _ => rfl) ?_
          refine x_A k148_30 (fun _ => rfl) ?_
          refine x_ic_eq k148_31 (t := 63) rfl (by first | exact x_rb b_a rfl rfl | exact ⟨by omega, by omega⟩) (by first | exact x_rb b_b rfl rfl | exact ⟨by omega, by omega⟩) (fun c30 => ?_) (fun c30 => ?_)
          · skip
            refine x_sipush k148_63 (by decide +kernel) ?_
            exact x_iret k148_66 rfl ⟨hG0, f0, (-1003), rfl, ⟨by decide, by decide⟩, (by unfold EnR; exact Or.inr (Or.inl ⟨by omega, by omega, rfl⟩)), i0_J⟩
          · skip
            refine x_A k148_34 (fun _ => rfl) ?_
            refine x_A k148_35 (fun _ => rfl) ?_
            refine x_A k148_36 (fun _ => rfl) ?_
            refine x_getI k148_37 (f := 0) rfl (q := 256) (n := 62) (kd := 15) ⟨by decide, rfl⟩ (by decide) rfl ?_
            refine x_rw (e_z2.symm) ?_
            refine x_callV k148_40 (y := 142) (n := 2) (w0 := 0) (w1 := 2) (as := [vi a, vi z2]) (rest := []) (by decide +kernel) (q := 256) (nq := 62) (kq := 15) ⟨by decide, rfl⟩ rfl rfl rfl rfl (xe_mono (C_X11_isThere_256 s0 hG0 a (by first | exact x_rb b_a rfl rfl | exact ⟨by omega, by omega⟩) z2 (by first | exact x_rbe e_z2 g_z2 rfl rfl | exact x_rb g_z2 rfl rfl | exact ⟨by omega, by omega⟩)) ?_)
            rintro s32 v ⟨h_s32, z31, rfl, hz_z31⟩
            rw [h_s32]
            rcases hz_z31 with ⟨c_z31, e_z31, m_z31⟩ | ⟨e_z31, m_z31⟩
            · rw [e_z31]
              show xe none 148 43 [(0, .ref 256), (1, vi a), (2, vi b)] [vi 1] s0 0 0 _
              refine x_if_eq k148_43 (t := 63) rfl ⟨by decide, by decide⟩ (fun c33 => by exfalso; omega) (fun c33 => ?_)
              refine x_A k148_46 (fun _ => rfl) ?_
              refine x_A k148_47 (fun _ => rfl) ?_
              refine x_ic_eq k148_48 (t := 67) rfl (by first | exact x_rb b_b rfl rfl | exact ⟨by omega, by omega⟩) ⟨by decide, by decide⟩ (fun c34 => by exfalso; omega) (fun c34 => ?_)
              refine x_A k148_51 (fun _ => rfl) ?_
              refine x_A k148_52 (fun _ => rfl) ?_
              refine x_A k148_53 (fun _ => rfl) ?_
              refine x_getI k148_54 (f := 0) rfl (q := 256) (n := 62) (kd := 15) ⟨by decide, rfl⟩ (by decide) rfl ?_
              refine x_rw (e_z2.symm) ?_
              refine x_callV k148_57 (y := 142) (n := 2) (w0 := 0) (w1 := 2) (as := [vi b, vi z2]) (rest := []) (by decide +kernel) (q := 256) (nq := 62) (kq := 15) ⟨by decide, rfl⟩ rfl rfl rfl rfl (xe_mono (C_X11_isThere_256 s0 hG0 b (by first | exact x_rb b_b rfl rfl | exact ⟨by omega, by omega⟩) z2 (by first | exact x_rbe e_z2 g_z2 rfl rfl | exact x_rb g_z2 rfl rfl | exact ⟨by omega, by omega⟩)) ?_)
              rintro s36 v ⟨h_s36, z35, rfl, hz_z35⟩
              rw [h_s36]
              rcases hz_z35 with ⟨c_z35, e_z35, m_z35⟩ | ⟨e_z35, m_z35⟩
              · rw [e_z35]
                show xe none 148 60 [(0, .ref 256), (1, vi a), (2, vi b)] [vi 1] s0 0 0 _
                refine x_if_ne k148_60 (t := 67) rfl ⟨by decide, by decide⟩ (fun c37 => ?_) (fun c37 => by exfalso; omega)
                refine x_A k148_67 (fun _ => rfl) ?_
                refine x_getR k148_68 (f := 3) rfl (q := 256) (n := 62) (kd := 15) ⟨by decide, rfl⟩ (q2 := 258) (by decide) rfl ?_
                refine x_A k148_71 (fun _ => rfl) ?_
                refine x_A k148_72 (fun _ => rfl) ?_
                refine x_getI k148_73 (f := 0) rfl (q := 256) (n := 62) (kd := 15) ⟨by decide, rfl⟩ (by decide) rfl ?_
                refine x_rw (e_z2.symm) ?_
                refine x_iast k148_76 (q := 258) (n := 40) ⟨by decide, rfl⟩ (by decide) (by first | exact x_rbl b_a rfl rfl | exact ⟨by omega, by omega⟩) ?_
                refine x_nh (fun s38 e_s38 => ?_)
                have hG_s38 : GI s38 := by rw [e_s38]; exact hG0.up (show (-1) ≤ z2 ∧ z2 ≤ 9 from (by first | exact x_rbe e_z2 g_z2 rfl rfl | exact x_rb g_z2 rfl rfl | exact ⟨by omega, by omega⟩))
                have f_s38 : FL [4224, 4288] s0 s38 := by rw [e_s38]; exact f0.up (show 4224 ∈ [4224, 4288] from by decide +kernel)
                have q39 : s38 256 1 = z1 := by rw [e_s38, x_up_q (by decide)]; exact e_z1.symm
                have q40 : s38 256 0 = z2 := by rw [e_s38, x_up_q (by decide)]; exact e_z2.symm
                have q41 : s38 258 a.toNat = z2 := by rw [e_s38]; exact x_up_same
                refine x_A k148_77 (fun _ => rfl) ?_
                refine x_getR k148_78 (f := 4) rfl (q := 256) (n := 62) (kd := 15) ⟨by decide, rfl⟩ (q2 := 259) (by decide) rfl ?_
                refine x_A k148_81 (fun _ => rfl) ?_
                refine x_A k148_82 (fun _ => rfl) ?_
                refine x_iast k148_83 (q := 259) (n := 40) ⟨by decide, rfl⟩ (by decide) (by first | exact x_rbl b_a rfl rfl | exact ⟨by omega, by omega⟩) ?_
                refine x_nh (fun s42 e_s42 => ?_)
                have hG_s42 : GI s42 := by rw [e_s42]; exact hG_s38.up (show (-1) ≤ b ∧ b ≤ 39 from (by first | exact x_rb b_b rfl rfl | exact ⟨by omega, by omega⟩))
                have f_s42 : FL [4224, 4288] s0 s42 := by rw [e_s42]; exact f_s38.up (show 4288 ∈ [4224, 4288] from by decide +kernel)
                have q43 : s42 256 1 = z1 := by rw [e_s42, x_up_q (by decide)]; exact q39
                have q44 : s42 256 0 = z2 := by rw [e_s42, x_up_q (by decide)]; exact q40
                have q45 : s42 258 a.toNat = z2 := by rw [e_s42, x_up_q (by first | decide | omega)]; exact q41
                have q46 : s42 259 a.toNat = b := by rw [e_s42]; exact x_up_same
                have J_e : J s42 := by rw [e_s42, e_s38]; exact J.end i0_J hG0 e_z2 ⟨by omega, by omega⟩ (by omega) (by omega)
                refine x_A k148_84 (fun _ => rfl) ?_
                refine x_A k148_85 (fun _ => rfl) ?_
                refine x_A k148_86 (fun _ => rfl) ?_
                refine x_getI k148_87 (f := 0) rfl (q := 256) (n := 62) (kd := 15) ⟨by decide, rfl⟩ (by decide) rfl ?_
                refine x_rw (q44) ?_
                refine x_callV k148_90 (y := 144) (n := 2) (w0 := 0) (w1 := 2) (as := [vi a, vi z2]) (rest := []) (by decide +kernel) (q := 256) (nq := 62) (kq := 15) ⟨by decide, rfl⟩ rfl rfl rfl rfl (xe_mono (C_X11_belowMany_256 s42 hG_s42 J_e a (by first | exact x_rb b_a rfl rfl | exact ⟨by omega, by omega⟩) z2 (by first | exact x_rbe e_z2 g_z2 rfl rfl | exact x_rb g_z2 rfl rfl | exact ⟨by omega, by omega⟩)) ?_)
                rintro s48 v ⟨-, t_s48, z47, rfl, g_z47⟩
                rw [t_s48.nil]
                show xe none 148 93 [(0, .ref 256), (1, vi a), (2, vi b)] [vi z47] s42 0 0 _
                refine x_A k148_93 (fun _ => rfl) ?_
                refine x_isub k148_94 ?_
                refine x_top (fun z49 e_z49 => ?_)
                exact x_iret k148_95 rfl ⟨hG_s42, f_s42, z49, rfl, (by first | exact x_rbe e_z49 g_z49 rfl rfl | exact x_rb g_z49 rfl rfl | exact ⟨by omega, by omega⟩), (by unfold EnR; exact Or.inr (Or.inr ⟨by omega, by omega, fun j => by rw [e_s42, x_up_q (by decide), e_s38, x_up_at, show z2 = s0 256 0 by omega]⟩)), J_e⟩
              · rw [e_z35]
                show xe none 148 60 [(0, .ref 256), (1, vi a), (2, vi b)] [vi 0] s0 0 0 _
                refine x_if_ne k148_60 (t := 67) rfl ⟨by decide, by decide⟩ (fun c50 => by exfalso; omega) (fun c50 => ?_)
                refine x_sipush k148_63 (by decide +kernel) ?_
                exact x_iret k148_66 rfl ⟨hG0, f0, (-1003), rfl, ⟨by decide, by decide⟩, (by unfold EnR; exact Or.inr (Or.inl ⟨by omega, by omega, rfl⟩)), i0_J⟩
            · rw [e_z31]
              show xe none 148 43 [(0, .ref 256), (1, vi a), (2, vi b)] [vi 0] s0 0 0 _
              refine x_if_eq k148_43 (t := 63) rfl ⟨by decide, by decide⟩ (fun c51 => ?_) (fun c51 => by exfalso; omega)
              refine x_sipush k148_63 (by decide +kernel) ?_
              exact x_iret k148_66 rfl ⟨hG0, f0, (-1003), rfl, ⟨by decide, by decide⟩, (by unfold EnR; exact Or.inr (Or.inl ⟨by omega, by omega, rfl⟩)), i0_J⟩
      · rw [e_z26]
        show xe none 148 18 [(0, .ref 256), (1, vi a), (2, vi b)] [vi 0] s0 0 0 _
        refine x_if_ne k148_18 (t := 25) rfl ⟨by decide, by decide⟩ (fun c52 => by exfalso; omega) (fun c52 => ?_)
        refine x_sipush k148_21 (by decide +kernel) ?_
        exact x_iret k148_24 rfl ⟨hG0, f0, (-1001), rfl, ⟨by decide, by decide⟩, (by unfold EnR; exact Or.inl ⟨by omega, rfl⟩), i0_J⟩
  · rw [e_z3]
    show xe none 148 5 [(0, .ref 256), (1, vi a), (2, vi b)] [vi 0] s0 0 0 _
    refine x_if_eq k148_5 (t := 21) rfl ⟨by decide, by decide⟩ (fun c53 => ?_) (fun c53 => by exfalso; omega)
    refine x_sipush k148_21 (by decide +kernel) ?_
    exact x_iret k148_24 rfl ⟨hG0, f0, (-1001), rfl, ⟨by decide, by decide⟩, (by unfold EnR; exact Or.inl ⟨by omega, rfl⟩), i0_J⟩
theorem L_E_J7_fill_53178_g57_5 (s0 : xS) (q : Nat) (b_q : 57 ≤ q ∧ q ≤ 176) (a : Int) (b_a : (-1) ≤ a ∧ a ≤ 9)  : ∀ (n : Nat) (s : xS) (x0 : Nat) (x1 : Int) (x2 : Int) (x3 : Int) (hG : GI s) (f : FL [1152] s0 s) (b_x0 : 57 ≤ x0 ∧ x0 ≤ 176) (b_x1 : (-1) ≤ x1 ∧ x1 ≤ 9) (b_x2 : 0 ≤ x2 ∧ x2 ≤ 8) (b_x3 : 8 ≤ x3 ∧ x3 ≤ 8) (r_3_2 : x3 ≤ x2 + 8) (w_0 : x0 = q) (w_1 : x1 = a) (w_2 : x3 = 8) (w_3 : ∀ r j : Nat, 57 ≤ r → r ≤ 176 → s r j = if r = q ∧ (j : Int) < x2 then a else s0 r j)  (hm : (8 - x2) < (n : Int)), xe none 229 5 [(0, .ref x0), (1, vi x1), (2, vi x2), (3, vi x3)] [] s 0 0 (fun s' v => GI s' ∧ FL [1152] s0 s' ∧ v = none ∧ (∀ r j : Nat, 57 ≤ r → r ≤ 176 → s' r j = if r = q ∧ (j : Int) < 8 then a else s0 r j)) := by
  intro n
  induction n with
  | zero => intro s x0 x1 x2 x3 hG f b_x0 b_x1 b_x2 b_x3 r_3_2 w_0 w_1 w_2 w_3  hm; exfalso; omega
  | succ n ih =>
    intro s x0 x1 x2 x3 hG f b_x0 b_x1 b_x2 b_x3 r_3_2 w_0 w_1 w_2 w_3  hm
    refine x_A k229_5 (fun _ => rfl) ?_
    refine x_A k229_6 (fun _ => rfl) ?_
    refine x_ic_ge k229_7 (t := 20) rfl (by first | exact x_rb b_x2 rfl rfl | exact ⟨by omega, by omega⟩) (by first | exact x_rb b_x3 rfl rfl | exact ⟨by omega, by omega⟩) (fun c45 => ?_) (fun c45 => ?_)
    · skip
      exact x_vret k229_20 rfl ⟨hG, f, rfl, (by rw [show x2 = 8 by omega] at w_3; exact w_3)⟩
    · skip
      refine x_A k229_10 (fun _ => rfl) ?_
      refine x_A k229_11 (fun _ => rfl) ?_
      refine x_A k229_12 (fun _ => rfl) ?_
      refine x_iast k229_13 (q := x0) (n := 8) (xg_57 (by omega) (by omega)) (by decide) (by first | exact x_rbl b_x2 rfl rfl | exact ⟨by omega, by omega⟩) ?_
      refine x_nh (fun s46 e_s46 => ?_)
      have w47 := gr_57 x2.toNat (show 57 ≤ x0 by omega) (by omega)
      have hG_s46 : GI s46 := by rw [e_s46]; exact hG.up (by rw [w47.1, w47.2.1]; exact (show (-1) ≤ x1 ∧ x1 ≤ 9 from (by first | exact x_rb b_x1 rfl rfl | exact ⟨by omega, by omega⟩)))
      have f_s46 : FL [1152] s0 s46 := by rw [e_s46]; exact f.up (by rw [w47.2.2]; decide)
      have q48 : s46 x0 x2.toNat = x1 := by rw [e_s46]; exact x_up_same
      refine x_iinc k229_14 (ls' := [(2, vi (x2 + 1)), (0, .ref x0), (1, vi x1), (3, vi x3)]) rfl (by decide) rfl ?_
      refine x_goto k229_17 (t := 5) rfl ?_
      refine x_ls (l := [(0, .ref x0), (1, vi x1), (2, vi (x2 + 1)), (3, vi x3)]) (show ([0, 1, 2, 3] : List Nat).Nodup from by decide +kernel) ⟨rfl, rfl, rfl, rfl, trivial⟩ ?_
      exact ih s46 x0 x1 (x2 + 1) x3 hG_s46 f_s46 ⟨by omega, by omega⟩ (by first | exact x_rb b_x1 rfl rfl | exact ⟨by omega, by omega⟩) ⟨by omega, by omega⟩ (by first | exact x_rb b_x3 rfl rfl | exact ⟨by omega, by omega⟩) (by omega) (by omega) (by omega) (by omega) (by rw [e_s46, show x1 = a by omega]; exact fl_up w_3 (by omega) (by omega))  (by omega)
theorem E_J7_fill_53178_g57 (s0 : xS) (hG0 : GI s0) (q : Nat) (b_q : 57 ≤ q ∧ q ≤ 176) (a : Int) (b_a : (-1) ≤ a ∧ a ≤ 9) : xe none 229 0 (lv_args 0 [.ref q, vi a]) [] s0 0 0 (fun s' v => GI s' ∧ FL [1152] s0 s' ∧ v = none ∧ (∀ r j : Nat, 57 ≤ r → r ≤ 176 → s' r j = if r = q ∧ (j : Int) < 8 then a else s0 r j)) := by
  have f0 : FL [1152] s0 s0 := FL.rf
  show xe none 229 0 [(0, .ref q), (1, vi a)] [] s0 0 0 _
  refine x_A k229_0 (fun _ => rfl) ?_
  refine x_istore_n k229_1 (ls' := [(2, vi 0), (0, .ref q), (1, vi a)]) (by decide) rfl ?_
  refine x_A k229_2 (fun _ => rfl) ?_
  refine x_alen k229_3 (q := q) (t := 20) (n := 8) (kd := 0) (xg_57 (by omega) (by omega)) (by decide) ?_
  refine x_top (fun z49 e_z49 => ?_)
  refine x_istore_n k229_4 (ls' := [(3, vi z49), (2, vi 0), (0, .ref q), (1, vi a)]) (by decide) rfl ?_
  refine x_ls (l := [(0, .ref q), (1, vi a), (2, vi 0), (3, vi z49)]) (show ([0, 1, 2, 3] : List Nat).Nodup from by decide +kernel) ⟨rfl, rfl, rfl, rfl, trivial⟩ ?_
  exact L_E_J7_fill_53178_g57_5 s0 q b_q a b_a  (((8 - 0) + 1 : Int)).toNat s0 q a 0 z49 hG0 f0 ⟨by omega, by omega⟩ (by first | exact x_rb b_a rfl rfl | exact ⟨by omega, by omega⟩) ⟨by decide, by decide⟩ (by first | exact x_rbe e_z49 g_z49 rfl rfl | exact x_rb g_z49 rfl rfl | exact ⟨by omega, by omega⟩) (by omega) (by omega) (by omega) (by omega) (fun r j _ _ => by rw [if_neg (by omega)])  (by omega)
theorem E_X2_add_50 (s0 : xS) (hG0 : GI s0) (a : Int) (b_a : 0 ≤ a ∧ a ≤ 39) (b : Int) (b_b : 0 ≤ b ∧ b ≤ 39) (d : Int) (b_d : 0 ≤ d ∧ d ≤ 7) (e : Int) (b_e : 0 ≤ e ∧ e ≤ 63) (g : Int) (b_g : 0 ≤ g ∧ g ≤ 9) (p_50_6 : 0 ≤ s0 50 6 ∧ s0 50 6 ≤ 120) : xe none 25 0 (lv_args 0 [.ref 50, vi a, vi b, vi d, vi e, vi g]) [] s0 0 0 (fun s' v => GI s' ∧ FL [711, 768, 832, 896, 960, 1024, 1152] s0 s' ∧ ∃ z, v = some (vi z) ∧ ((-1004) ≤ z ∧ z ≤ 119) ∧ ((120 ≤ s0 50 6 ∧ z = -1004 ∧ s' 50 6 = s0 50 6 ∧ s' 53 = s0 53 ∧ ∀ r j : Nat, 57 ≤ r → r ≤ 176 → s' r j = s0 r j) ∨ (s0 50 6 < 120 ∧ z = s0 50 6 ∧ s' 50 6 = s0 50 6 + 1 ∧ (∀ j : Nat, s' 53 j = if j = (s0 50 6).toNat then d else s0 53 j) ∧ ∀ r j : Nat, 57 ≤ r → r ≤ 176 → s' r j = if r = 56 + 1 + (s0 50 6).toNat ∧ (j : Int) < 8 then -1 else s0 r j))) := by
  have f0 : FL [711, 768, 832, 896, 960, 1024, 1152] s0 s0 := FL.rf
  show xe none 25 0 [(0, .ref 50), (1, vi a), (2, vi b), (3, vi d), (4, vi e), (5, vi g)] [] s0 0 0 _
  obtain ⟨z1, e_z1⟩ : ∃ z, z = s0 50 6 := ⟨_, rfl⟩
  have g_z1 : (0 : Int) ≤ s0 50 6 ∧ s0 50 6 ≤ 120 := hG0 50 6
  refine x_A k25_0 (fun _ => rfl) ?_
  refine x_getI k25_1 (f := 6) rfl (q := 50) (n := 7) (kd := 6) ⟨by decide, rfl⟩ (by decide) rfl ?_
  refine x_rw (e_z1.symm) ?_
  refine x_istore k25_4 (ls' := [(6, vi z1), (0, .ref 50), (1, vi a), (2, vi b), (3, vi d), (4, vi e), (5, vi g)]) (by decide) rfl ?_
  refine x_A k25_6 (fun _ => rfl) ?_
  refine x_bipush k25_8 (by decide +kernel) ?_
  refine x_ic_lt k25_10 (t := 17) rfl (by first | exact x_rbe e_z1 g_z1 rfl rfl | exact x_rb g_z1 rfl rfl | exact ⟨by omega, by omega⟩) ⟨by decide, by decide⟩ (fun c2 => ?_) (fun c2 => ?_)
  · skip
    refine x_A k25_17 (fun _ => rfl) ?_
    refine x_getR k25_18 (f := 0) rfl (q := 50) (n := 7) (kd := 6) ⟨by decide, rfl⟩ (q2 := 51) (by decide) rfl ?_
    refine x_A k25_21 (fun _ => rfl) ?_
    refine x_A k25_23 (fun _ => rfl) ?_
    refine x_iast k25_24 (q := 51) (n := 120) ⟨by decide, rfl⟩ (by decide) (by first | exact x_rbel e_z1 g_z1 rfl rfl | exact x_rbl g_z1 rfl rfl | exact ⟨by omega, by omega⟩) ?_
    refine x_nh (fun s3 e_s3 => ?_)
    have hG_s3 : GI s3 := by rw [e_s3]; exact hG0.up (show 0 ≤ a ∧ a ≤ 39 from (by first | exact x_rb b_a rfl rfl | exact ⟨by omega, by omega⟩))
    have f_s3 : FL [711, 768, 832, 896, 960, 1024, 1152] s0 s3 := by rw [e_s3]; exact f0.up (show 768 ∈ [711, 768, 832, 896, 960, 1024, 1152] from by decide +kernel)
    have q4 : s3 50 6 = z1 := by rw [e_s3, x_up_q (by decide)]; exact e_z1.symm
    have q5 : s3 51 z1.toNat = a := by rw [e_s3]; exact x_up_same
    refine x_A k25_25 (fun _ => rfl) ?_
    refine x_getR k25_26 (f := 1) rfl (q := 50) (n := 7) (kd := 6) ⟨by decide, rfl⟩ (q2 := 52) (by decide) rfl ?_
    refine x_A k25_29 (fun _ => rfl) ?_
    refine x_A k25_31 (fun _ => rfl) ?_
    refine x_iast k25_32 (q := 52) (n := 120) ⟨by decide, rfl⟩ (by decide) (by first | exact x_rbel e_z1 g_z1 rfl rfl | exact x_rbl g_z1 rfl rfl | exact ⟨by omega, by omega⟩) ?_
    refine x_nh (fun s6 e_s6 => ?_)
    have hG_s6 : GI s6 := by rw [e_s6]; exact hG_s3.up (show 0 ≤ b ∧ b ≤ 39 from (by first | exact x_rb b_b rfl rfl | exact ⟨by omega, by omega⟩))
    have f_s6 : FL [711, 768, 832, 896, 960, 1024, 1152] s0 s6 := by rw [e_s6]; exact f_s3.up (show 832 ∈ [711, 768, 832, 896, 960, 1024, 1152] from by decide +kernel)
    have q7 : s6 50 6 = z1 := by rw [e_s6, x_up_q (by decide)]; exact q4
    have q8 : s6 51 z1.toNat = a := by rw [e_s6, x_up_q (by first | decide | omega)]; exact q5
    have q9 : s6 52 z1.toNat = b := by rw [e_s6]; exact x_up_same
    refine x_A k25_33 (fun _ => rfl) ?_
    refine x_getR k25_34 (f := 2) rfl (q := 50) (n := 7) (kd := 6) ⟨by decide, rfl⟩ (q2 := 53) (by decide) rfl ?_
    refine x_A k25_37 (fun _ => rfl) ?_
    refine x_A k25_39 (fun _ => rfl) ?_
    refine x_iast k25_40 (q := 53) (n := 120) ⟨by decide, rfl⟩ (by decide) (by first | exact x_rbel e_z1 g_z1 rfl rfl | exact x_rbl g_z1 rfl rfl | exact ⟨by omega, by omega⟩) ?_
    refine x_nh (fun s10 e_s10 => ?_)
    have hG_s10 : GI s10 := by rw [e_s10]; exact hG_s6.up (show 0 ≤ d ∧ d ≤ 7 from (by first | exact x_rb b_d rfl rfl | exact ⟨by omega, by omega⟩))
    have f_s10 : FL [711, 768, 832, 896, 960, 1024, 1152] s0 s10 := by rw [e_s10]; exact f_s6.up (show 896 ∈ [711, 768, 832, 896, 960, 1024, 1152] from by decide +kernel)
    have q11 : s10 50 6 = z1 := by rw [e_s10, x_up_q (by decide)]; exact q7
    have q12 : s10 51 z1.toNat = a := by rw [e_s10, x_up_q (by first | decide | omega)]; exact q8
    have q13 : s10 52 z1.toNat = b := by rw [e_s10, x_up_q (by first | decide | omega)]; exact q9
    have q14 : s10 53 z1.toNat = d := by rw [e_s10]; exact x_up_same
    refine x_A k25_41 (fun _ => rfl) ?_
    refine x_getR k25_42 (f := 3) rfl (q := 50) (n := 7) (kd := 6) ⟨by decide, rfl⟩ (q2 := 54) (by decide) rfl ?_
    refine x_A k25_45 (fun _ => rfl) ?_
    refine x_A k25_47 (fun _ => rfl) ?_
    refine x_iast k25_49 (q := 54) (n := 120) ⟨by decide, rfl⟩ (by decide) (by first | exact x_rbel e_z1 g_z1 rfl rfl | exact x_rbl g_z1 rfl rfl | exact ⟨by omega, by omega⟩) ?_
    refine x_nh (fun s15 e_s15 => ?_)
    have hG_s15 : GI s15 := by rw [e_s15]; exact hG_s10.up (show 0 ≤ e ∧ e ≤ 63 from (by first | exact x_rb b_e rfl rfl | exact ⟨by omega, by omega⟩))
    have f_s15 : FL [711, 768, 832, 896, 960, 1024, 1152] s0 s15 := by rw [e_s15]; exact f_s10.up (show 960 ∈ [711, 768, 832, 896, 960, 1024, 1152] from by decide +kernel)
    have q16 : s15 50 6 = z1 := by rw [e_s15, x_up_q (by decide)]; exact q11
    have q17 : s15 51 z1.toNat = a := by rw [e_s15, x_up_q (by first | decide | omega)]; exact q12
    have q18 : s15 52 z1.toNat = b := by rw [e_s15, x_up_q (by first | decide | omega)]; exact q13
    have q19 : s15 53 z1.toNat = d := by rw [e_s15, x_up_q (by first | decide | omega)]; exact q14
    have q20 : s15 54 z1.toNat = e := by rw [e_s15]; exact x_up_same
    refine x_A k25_50 (fun _ => rfl) ?_
    refine x_getR k25_51 (f := 4) rfl (q := 50) (n := 7) (kd := 6) ⟨by decide, rfl⟩ (q2 := 55) (by decide) rfl ?_
    refine x_A k25_54 (fun _ => rfl) ?_
    refine x_A k25_56 (fun _ => rfl) ?_
    refine x_iast k25_58 (q := 55) (n := 120) ⟨by decide, rfl⟩ (by decide) (by first | exact x_rbel e_z1 g_z1 rfl rfl | exact x_rbl g_z1 rfl rfl | exact ⟨by omega, by omega⟩) ?_
    refine x_nh (fun s21 e_s21 => ?_)
    have hG_s21 : GI s21 := by rw [e_s21]; exact hG_s15.up (show 0 ≤ g ∧ g ≤ 9 from (by first | exact x_rb b_g rfl rfl | exact ⟨by omega, by omega⟩))
    have f_s21 : FL [711, 768, 832, 896, 960, 1024, 1152] s0 s21 := by rw [e_s21]; exact f_s15.up (show 1024 ∈ [711, 768, 832, 896, 960, 1024, 1152] from by decide +kernel)
    have q22 : s21 50 6 = z1 := by rw [e_s21, x_up_q (by decide)]; exact q16
    have q23 : s21 51 z1.toNat = a := by rw [e_s21, x_up_q (by first | decide | omega)]; exact q17
    have q24 : s21 52 z1.toNat = b := by rw [e_s21, x_up_q (by first | decide | omega)]; exact q18
    have q25 : s21 53 z1.toNat = d := by rw [e_s21, x_up_q (by first | decide | omega)]; exact q19
    have q26 : s21 54 z1.toNat = e := by rw [e_s21, x_up_q (by first | decide | omega)]; exact q20
    have q27 : s21 55 z1.toNat = g := by rw [e_s21]; exact x_up_same
    refine x_A k25_59 (fun _ => rfl) ?_
    refine x_getR k25_60 (f := 5) rfl (q := 50) (n := 7) (kd := 6) ⟨by decide, rfl⟩ (q2 := 56) (by decide) rfl ?_
    refine x_A k25_63 (fun _ => rfl) ?_
    refine x_aald k25_65 (q := 56) (t := 23) (n := 120) ⟨by decide, rfl⟩ (by decide) (by decide) ⟨by omega, by omega⟩ ?_
    refine x_A k25_66 (fun _ => rfl) ?_
    refine x_callS k25_67 (y := 229) (n := 2) (w0 := 0) (w1 := 2) (as := [.ref (56 + 1 + z1.toNat), vi (-1)]) (rest := []) (by decide +kernel) rfl rfl rfl rfl (xe_mono (E_J7_fill_53178_g57 s21 hG_s21 (56 + 1 + z1.toNat) ⟨by omega, by omega⟩ (-1) ⟨by decide, by decide⟩) ?_)
    rintro s29 v ⟨hG_s29, t_s29, rfl, xp_z28⟩
    have f_s29 : FL [711, 768, 832, 896, 960, 1024, 1152] s0 s29 := f_s21.tr t_s29 (by decide +kernel)
    have q30 : s29 50 6 = z1 := (t_s29 50 6 (show 711 ∉ [1152] from by decide +kernel)).trans q22
    have q31 : s29 51 z1.toNat = a := (t_s29 51 z1.toNat (show 768 ∉ [1152] from by decide +kernel)).trans q23
    have q32 : s29 52 z1.toNat = b := (t_s29 52 z1.toNat (show 832 ∉ [1152] from by decide +kernel)).trans q24
    have q33 : s29 53 z1.toNat = d := (t_s29 53 z1.toNat (show 896 ∉ [1152] from by decide +kernel)).trans q25
    have q34 : s29 54 z1.toNat = e := (t_s29 54 z1.toNat (show 960 ∉ [1152] from by decide +kernel)).trans q26
    have q35 : s29 55 z1.toNat = g := (t_s29 55 z1.toNat (show 1024 ∉ [1152] from by decide +kernel)).trans q27
    show xe none 25 70 [(6, vi z1), (0, .ref 50), (1, vi a), (2, vi b), (3, vi d), (4, vi e), (5, vi g)] [] s29 0 0 _
    refine x_A k25_70 (fun _ => rfl) ?_
    refine x_A k25_71 (fun _ => rfl) ?_
    refine x_getI k25_72 (f := 6) rfl (q := 50) (n := 7) (kd := 6) ⟨by decide, rfl⟩ (by decide) rfl ?_
    refine x_rw (q30) ?_
    refine x_A k25_75 (fun _ => rfl) ?_
    refine x_iadd k25_76 ?_
    refine x_top (fun z36 e_z36 => ?_)
    refine x_putI k25_77 (f := 6) rfl (q := 50) (n := 7) (kd := 6) ⟨by decide, rfl⟩ rfl rfl rfl ?_
    refine x_nh (fun s37 e_s37 => ?_)
    have hG_s37 : GI s37 := by rw [e_s37]; exact hG_s29.up (show 0 ≤ z36 ∧ z36 ≤ 120 from (by first | exact x_rbe e_z36 g_z36 rfl rfl | exact x_rb g_z36 rfl rfl | exact ⟨by omega, by omega⟩))
    have f_s37 : FL [711, 768, 832, 896, 960, 1024, 1152] s0 s37 := by rw [e_s37]; exact f_s29.up (show 711 ∈ [711, 768, 832, 896, 960, 1024, 1152] from by decide +kernel)
    have q38 : s37 50 6 = z36 := by rw [e_s37]; exact x_up_same
    have q39 : s37 51 z1.toNat = a := by rw [e_s37, x_up_q (by first | decide | omega)]; exact q31
    have q40 : s37 52 z1.toNat = b := by rw [e_s37, x_up_q (by first | decide | omega)]; exact q32
    have q41 : s37 53 z1.toNat = d := by rw [e_s37, x_up_q (by first | decide | omega)]; exact q33
    have q42 : s37 54 z1.toNat = e := by rw [e_s37, x_up_q (by first | decide | omega)]; exact q34
    have q43 : s37 55 z1.toNat = g := by rw [e_s37, x_up_q (by first | decide | omega)]; exact q35
    refine x_A k25_80 (fun _ => rfl) ?_
    exact x_iret k25_82 rfl ⟨hG_s37, f_s37, z1, rfl, (by first | exact x_rbe e_z1 g_z1 rfl rfl | exact x_rb g_z1 rfl rfl | exact ⟨by omega, by omega⟩), Or.inr ⟨by omega, by omega, by omega, fun j => by rw [e_s37, x_up_q (by decide), t_s29 53 j (show 896 ∉ _ from by decide), e_s21, x_up_q (by decide), e_s15, x_up_q (by decide), e_s10, x_up_at, e_s6, x_up_q (by decide), e_s3, x_up_q (by decide), show z1 = s0 50 6 by omega], fun r j h1 h2 => by rw [e_s37, x_up_q (by omega), xp_z28 r j h1 h2, e_s21, x_up_q (by omega), e_s15, x_up_q (by omega), e_s10, x_up_q (by omega), e_s6, x_up_q (by omega), e_s3, x_up_q (by omega), show z1 = s0 50 6 by omega]⟩⟩
  · skip
    refine x_sipush k25_13 (by decide +kernel) ?_
    exact x_iret k25_16 rfl ⟨hG0, f0, (-1004), rfl, ⟨by decide, by decide⟩, Or.inl ⟨by omega, rfl, rfl, rfl, fun _ _ _ _ => rfl⟩⟩
theorem E_X10_give_0 (s0 : xS) (hG0 : GI s0) (a : Int) (b_a : (-2147483648) ≤ a ∧ a ≤ 2147483647) (b : Int) (b_b : (-2147483648) ≤ b ∧ b ≤ 2147483647) (d : Int) (b_d : (-2147483648) ≤ d ∧ d ≤ 2147483647) (e : Int) (b_e : (-2147483648) ≤ e ∧ e ≤ 2147483647) (p_50_6 : 0 ≤ s0 50 6 ∧ s0 50 6 ≤ 120) (p_46_3 : 0 ≤ s0 46 3 ∧ s0 46 3 ≤ 40) (p_1_4 : 1 ≤ s0 1 4 ∧ s0 1 4 ≤ 40) : xe none 98 0 (lv_args 0 [.ref 0, vi a, vi b, vi d, vi e]) [] s0 0 0 (fun s' v => GI s' ∧ FL [711, 768, 832, 896, 960, 1024, 1152, 3276, 3277] s0 s' ∧ ∃ z, v = some (vi z) ∧ ((-1004) ≤ z ∧ z ≤ 119) ∧ (GiC s0 s' a b d e z)) := by
  have f0 : FL [711, 768, 832, 896, 960, 1024, 1152, 3276, 3277] s0 s0 := FL.rf
  show xe none 98 0 [(0, .ref 0), (1, vi a), (2, vi b), (3, vi d), (4, vi e)] [] s0 0 0 _
  obtain ⟨z1, e_z1⟩ : ∃ z, z = s0 50 6 := ⟨_, rfl⟩
  have g_z1 : (0 : Int) ≤ s0 50 6 ∧ s0 50 6 ≤ 120 := hG0 50 6
  obtain ⟨z2, e_z2⟩ : ∃ z, z = s0 46 3 := ⟨_, rfl⟩
  have g_z2 : (0 : Int) ≤ s0 46 3 ∧ s0 46 3 ≤ 40 := hG0 46 3
  obtain ⟨z3, e_z3⟩ : ∃ z, z = s0 1 4 := ⟨_, rfl⟩
  have g_z3 : (1 : Int) ≤ s0 1 4 ∧ s0 1 4 ≤ 40 := hG0 1 4
  refine x_A k98_0 (fun _ => rfl) ?_
  refine x_getR k98_1 (f := 1) rfl (q := 0) (n := 12) (kd := 3) ⟨by decide, rfl⟩ (q2 := 46) (by decide) rfl ?_
  refine x_A k98_4 (fun _ => rfl) ?_
  refine x_callV k98_5 (y := 29) (n := 1) (w0 := 0) (w1 := 1) (as := [vi a]) (rest := []) (by decide +kernel) (q := 46) (nq := 4) (kq := 5) ⟨by decide, rfl⟩ rfl rfl rfl rfl (xe_mono (C_X3_has_46 s0 hG0 a (by first | exact x_rb b_a rfl rfl | exact ⟨by omega, by omega⟩)) ?_)
  rintro s5 v ⟨h_s5, z4, rfl, hz_z4⟩
  rw [h_s5]
  rcases hz_z4 with ⟨c_z4, e_z4⟩ | ⟨c_z4, e_z4⟩
  · rw [e_z4]
    show xe none 98 8 [(0, .ref 0), (1, vi a), (2, vi b), (3, vi d), (4, vi e)] [vi 1] s0 0 0 _
    refine x_if_eq k98_8 (t := 22) rfl ⟨by decide, by decide⟩ (fun c6 => by exfalso; omega) (fun c6 => ?_)
    refine x_A k98_11 (fun _ => rfl) ?_
    refine x_getR k98_12 (f := 0) rfl (q := 0) (n := 12) (kd := 3) ⟨by decide, rfl⟩ (q2 := 1) (by decide) rfl ?_
    refine x_A k98_15 (fun _ => rfl) ?_
    refine x_callV k98_16 (y := 59) (n := 1) (w0 := 0) (w1 := 1) (as := [vi b]) (rest := []) (by decide +kernel) (q := 1) (nq := 5) (kq := 4) ⟨by decide, rfl⟩ rfl rfl rfl rfl (xe_mono (C_X7_has_1 s0 hG0 b (by first | exact x_rb b_b rfl rfl | exact ⟨by omega, by omega⟩)) ?_)
    rintro s8 v ⟨h_s8, z7, rfl, hz_z7⟩
    rw [h_s8]
    rcases hz_z7 with ⟨c_z7, e_z7⟩ | ⟨c_z7, e_z7⟩
    · rw [e_z7]
      show xe none 98 19 [(0, .ref 0), (1, vi a), (2, vi b), (3, vi d), (4, vi e)] [vi 1] s0 0 0 _
      refine x_if_ne k98_19 (t := 26) rfl ⟨by decide, by decide⟩ (fun c9 => ?_) (fun c9 => by exfalso; omega)
      refine x_A k98_26 (fun _ => rfl) ?_
      refine x_callS k98_27 (y := 123) (n := 1) (w0 := 0) (w1 := 1) (as := [vi d]) (rest := []) (by decide +kernel) rfl rfl rfl rfl (xe_mono (C_X10_isHand s0 hG0 d (by first | exact x_rb b_d rfl rfl | exact ⟨by omega, by omega⟩)) ?_)
      rintro s11 v ⟨h_s11, z10, rfl, hz_z10⟩
      rw [h_s11]
      rcases hz_z10 with ⟨c_z10, e_z10⟩ | ⟨c_z10, e_z10⟩
      · rw [e_z10]
        show xe none 98 30 [(0, .ref 0), (1, vi a), (2, vi b), (3, vi d), (4, vi e)] [vi 1] s0 0 0 _
        refine x_if_eq k98_30 (t := 44) rfl ⟨by decide, by decide⟩ (fun c12 => by exfalso; omega) (fun c12 => ?_)
        refine x_A k98_33 (fun _ => rfl) ?_
        refine x_A k98_35 (fun _ => rfl) ?_
        refine x_bipush k98_36 (by decide +kernel) ?_
        refine x_callS k98_38 (y := 121) (n := 3) (w0 := 0) (w1 := 3) (as := [vi e, vi 0, vi 63]) (rest := []) (by decide +kernel) rfl rfl rfl rfl (xe_mono (C_X10_isWithin s0 hG0 e (by first | exact x_rb b_e rfl rfl | exact ⟨by omega, by omega⟩) 0 ⟨by decide, by decide⟩ 63 ⟨by decide, by decide⟩) ?_)
        rintro s14 v ⟨h_s14, z13, rfl, hz_z13⟩
        rw [h_s14]
        rcases hz_z13 with ⟨c_z13, e_z13⟩ | ⟨c_z13, e_z13⟩
        · rw [e_z13]
          show xe none 98 41 [(0, .ref 0), (1, vi a), (2, vi b), (3, vi d), (4, vi e)] [vi 1] s0 0 0 _
          refine x_if_ne k98_41 (t := 48) rfl ⟨by decide, by decide⟩ (fun c15 => ?_) (fun c15 => by exfalso; omega)
          refine x_A k98_48 (fun _ => rfl) ?_
          refine x_getR k98_49 (f := 9) rfl (q := 0) (n := 12) (kd := 3) ⟨by decide, rfl⟩ (q2 := 243) (by decide) rfl ?_
          refine x_callV k98_52 (y := 73) (n := 0) (w0 := 0) (w1 := 0) (as := []) (rest := []) (by decide +kernel) (q := 243) (nq := 13) (kq := 13) ⟨by decide, rfl⟩ rfl rfl rfl rfl (xe_mono (C_X8_forget_243 s0 hG0) ?_)
          rintro s17 v ⟨hG_s17, t_s17, rfl⟩
          have f_s17 : FL [711, 768, 832, 896, 960, 1024, 1152, 3276, 3277] s0 s17 := f0.tr t_s17 (by decide +kernel)
          have q18 : s17 50 6 = z1 := (t_s17 50 6 (show 711 ∉ [3276, 3277] from by decide +kernel)).trans e_z1.symm
          have q19 : s17 46 3 = z2 := (t_s17 46 3 (show 452 ∉ [3276, 3277] from by decide +kernel)).trans e_z2.symm
          have q20 : s17 1 4 = z3 := (t_s17 1 4 (show 69 ∉ [3276, 3277] from by decide +kernel)).trans e_z3.symm
          show xe none 98 55 [(0, .ref 0), (1, vi a), (2, vi b), (3, vi d), (4, vi e)] [] s17 0 0 _
          refine x_A k98_55 (fun _ => rfl) ?_
          refine x_getR k98_56 (f := 2) rfl (q := 0) (n := 12) (kd := 3) ⟨by decide, rfl⟩ (q2 := 50) (by decide) rfl ?_
          refine x_A k98_59 (fun _ => rfl) ?_
          refine x_A k98_60 (fun _ => rfl) ?_
          refine x_A k98_61 (fun _ => rfl) ?_
          refine x_A k98_62 (fun _ => rfl) ?_
          refine x_A k98_64 (fun _ => rfl) ?_
          refine x_getI k98_65 (f := 10) rfl (q := 0) (n := 12) (kd := 3) ⟨by decide, rfl⟩ (by decide) rfl ?_
          refine x_top (fun z21 e_z21 => ?_)
          have g_z21 : (0 : Int) ≤ s17 0 10 ∧ s17 0 10 ≤ 9 := hG_s17 0 10
          refine x_callV k98_68 (y := 25) (n := 5) (w0 := 0) (w1 := 5) (as := [vi a, vi b, vi d, vi e, vi z21]) (rest := []) (by decide +kernel) (q := 50) (nq := 7) (kq := 6) ⟨by decide, rfl⟩ rfl rfl rfl rfl (xe_mono (E_X2_add_50 s17 hG_s17 a (by first | exact x_rb b_a rfl rfl | exact ⟨by omega, by omega⟩) b (by first | exact x_rb b_b rfl rfl | exact ⟨by omega, by omega⟩) d (by first | exact x_rb b_d rfl rfl | exact ⟨by omega, by omega⟩) e (by first | exact x_rb b_e rfl rfl | exact ⟨by omega, by omega⟩) z21 (by first | exact x_rbe e_z21 g_z21 rfl rfl | exact x_rb g_z21 rfl rfl | exact ⟨by omega, by omega⟩) ⟨by omega, by omega⟩) ?_)
          rintro s23 v ⟨hG_s23, t_s23, z22, rfl, g_z22, xp_z22⟩
          have f_s23 : FL [711, 768, 832, 896, 960, 1024, 1152, 3276, 3277] s0 s23 := f_s17.tr t_s23 (by decide +kernel)
          have q24 : s23 46 3 = z2 := (t_s23 46 3 (show 452 ∉ [711, 768, 832, 896, 960, 1024, 1152] from by decide +kernel)).trans q19
          have q25 : s23 1 4 = z3 := (t_s23 1 4 (show 69 ∉ [711, 768, 832, 896, 960, 1024, 1152] from by decide +kernel)).trans q20
          have q26 : s23 0 10 = z21 := (t_s23 0 10 (show 11 ∉ [711, 768, 832, 896, 960, 1024, 1152] from by decide +kernel)).trans e_z21.symm
          obtain ⟨z27, e_z27⟩ : ∃ z, z = s23 50 6 := ⟨_, rfl⟩
          have g_z27 : (0 : Int) ≤ s23 50 6 ∧ s23 50 6 ≤ 120 := hG_s23 50 6
          show xe none 98 71 [(0, .ref 0), (1, vi a), (2, vi b), (3, vi d), (4, vi e)] [vi z22] s23 0 0 _
          have FH : s17 53 = s0 53 := funext fun i => t_s17 53 i (show 896 ∉ _ from by decide)
          have FR := rows120 t_s17 (by decide)
          exact x_iret k98_71 rfl ⟨hG_s23, f_s23, z22, rfl, (by first | exact x_rbe e_z22 g_z22 rfl rfl | exact x_rb g_z22 rfl rfl | exact ⟨by omega, by omega⟩), (by unfold GiC; exact xp_z22.elim (fun ⟨u1, u2, u3, u4, u5⟩ => Or.inr (Or.inr (Or.inl ⟨by omega, by omega, by omega, by omega, by omega, u4.trans FH, fun r j h1 h2 => (u5 r j h1 h2).trans (FR r j h1 h2)⟩))) (fun ⟨u1, u2, u3, u4, u5⟩ => Or.inr (Or.inr (Or.inr ⟨by omega, by omega, by omega, by omega, by omega, fun j => by rw [u4, FH, show s17 50 6 = s0 50 6 by omega], fun r j h1 h2 => by rw [u5 r j h1 h2, FR r j h1 h2, show s17 50 6 = s0 50 6 by omega]⟩))))⟩
        · rw [e_z13]
          show xe none 98 41 [(0, .ref 0), (1, vi a), (2, vi b), (3, vi d), (4, vi e)] [vi 0] s0 0 0 _
          refine x_if_ne k98_41 (t := 48) rfl ⟨by decide, by decide⟩ (fun c28 => by exfalso; omega) (fun c28 => ?_)
          refine x_sipush k98_44 (by decide +kernel) ?_
          exact x_iret k98_47 rfl ⟨hG0, f0, (-1002), rfl, ⟨by decide, by decide⟩, (by unfold GiC; exact Or.inr (Or.inl ⟨by omega, by omega, rfl, rfl, rfl, fun _ _ _ _ => rfl⟩))⟩
      · rw [e_z10]
        show xe none 98 30 [(0, .ref 0), (1, vi a), (2, vi b), (3, vi d), (4, vi e)] [vi 0] s0 0 0 _
        refine x_if_eq k98_30 (t := 44) rfl ⟨by decide, by decide⟩ (fun c29 => ?_) (fun c29 => by exfalso; omega)
        refine x_sipush k98_44 (by decide +kernel) ?_
        exact x_iret k98_47 rfl ⟨hG0, f0, (-1002), rfl, ⟨by decide, by decide⟩, (by unfold GiC; exact Or.inr (Or.inl ⟨by omega, by omega, rfl, rfl, rfl, fun _ _ _ _ => rfl⟩))⟩
    · rw [e_z7]
      show xe none 98 19 [(0, .ref 0), (1, vi a), (2, vi b), (3, vi d), (4, vi e)] [vi 0] s0 0 0 _
      refine x_if_ne k98_19 (t := 26) rfl ⟨by decide, by decide⟩ (fun c30 => by exfalso; omega) (fun c30 => ?_)
      refine x_sipush k98_22 (by decide +kernel) ?_
      exact x_iret k98_25 rfl ⟨hG0, f0, (-1001), rfl, ⟨by decide, by decide⟩, (by unfold GiC; exact Or.inl ⟨by omega, rfl, rfl, rfl, fun _ _ _ _ => rfl⟩)⟩
  · rw [e_z4]
    show xe none 98 8 [(0, .ref 0), (1, vi a), (2, vi b), (3, vi d), (4, vi e)] [vi 0] s0 0 0 _
    refine x_if_eq k98_8 (t := 22) rfl ⟨by decide, by decide⟩ (fun c31 => ?_) (fun c31 => by exfalso; omega)
    refine x_sipush k98_22 (by decide +kernel) ?_
    exact x_iret k98_25 rfl ⟨hG0, f0, (-1001), rfl, ⟨by decide, by decide⟩, (by unfold GiC; exact Or.inl ⟨by omega, rfl, rfl, rfl, fun _ _ _ _ => rfl⟩)⟩
theorem L_E_X11_give_256_114 (s0 : xS) (a : Int) (b_a : (-2147483648) ≤ a ∧ a ≤ 2147483647) (b : Int) (b_b : (-2147483648) ≤ b ∧ b ≤ 2147483647) (d : Int) (b_d : (-2147483648) ≤ d ∧ d ≤ 2147483647) (e : Int) (b_e : (-2147483648) ≤ e ∧ e ≤ 2147483647)  : ∀ (n : Nat) (s : xS) (x1 : Int) (x2 : Int) (x3 : Int) (x4 : Int) (x5 : Int) (x1000 : Int) (hG : GI s) (f : FL [4107, 4608, 4672, 4736, 4800, 4864, 4928] s0 s) (b_x1 : 0 ≤ x1 ∧ x1 ≤ 39) (b_x2 : 0 ≤ x2 ∧ x2 ≤ 39) (b_x3 : 0 ≤ x3 ∧ x3 ≤ 7) (b_x4 : 0 ≤ x4 ∧ x4 ≤ 63) (b_x5 : 0 ≤ x5 ∧ x5 ≤ 8) (b_x1000 : 0 ≤ x1000 ∧ x1000 ≤ 119) (w_0 : x1000 = s0 256 10) (w_1 : 0 ≤ a ∧ a < s0 256 6 ∧ 0 ≤ b ∧ b < s0 256 1) (w_2 : 0 ≤ d ∧ d ≤ 7 ∧ 0 ≤ e ∧ e ≤ 63) (w_3 : x1000 < 120) (w_4 : ∀ j : Nat, s 266 j = if j = (s0 256 10).toNat then d else s0 266 j) (w_5 : ∀ j : Nat, s 269 j = if 8 * s0 256 10 ≤ (j : Int) ∧ (j : Int) < 8 * s0 256 10 + x5 then -1 else s0 269 j) (e_x1000 : x1000 = s 256 10)  (hm : (8 - x5) < (n : Int)), xe none 155 114 [(0, .ref 256), (1, vi x1), (2, vi x2), (3, vi x3), (4, vi x4), (5, vi x5)] [] s 0 0 (fun s' v => GI s' ∧ FL [4107, 4608, 4672, 4736, 4800, 4864, 4928] s0 s' ∧ ∃ z, v = some (vi z) ∧ ((-1004) ≤ z ∧ z ≤ 119) ∧ (GiR s0 s' a b d e z)) := by
  intro n
  induction n with
  | zero => intro s x1 x2 x3 x4 x5 x1000 hG f b_x1 b_x2 b_x3 b_x4 b_x5 b_x1000 w_0 w_1 w_2 w_3 w_4 w_5 e_x1000  hm; exfalso; omega
  | succ n ih =>
    intro s x1 x2 x3 x4 x5 x1000 hG f b_x1 b_x2 b_x3 b_x4 b_x5 b_x1000 w_0 w_1 w_2 w_3 w_4 w_5 e_x1000  hm
    refine x_A k155_114 (fun _ => rfl) ?_
    refine x_bipush k155_116 (by decide +kernel) ?_
    refine x_ic_ge k155_118 (t := 143) rfl (by first | exact x_rb b_x5 rfl rfl | exact ⟨by omega, by omega⟩) ⟨by decide, by decide⟩ (fun c519 => ?_) (fun c519 => ?_)
    · skip
      refine x_A k155_143 (fun _ => rfl) ?_
      refine x_A k155_144 (fun _ => rfl) ?_
      refine x_getI k155_145 (f := 10) rfl (q := 256) (n := 62) (kd := 15) ⟨by decide, rfl⟩ (by decide) rfl ?_
      refine x_rw (e_x1000.symm) ?_
      refine x_A k155_148 (fun _ => rfl) ?_
      refine x_iadd k155_149 ?_
      refine x_top (fun z520 e_z520 => ?_)
      refine x_putI k155_150 (f := 10) rfl (q := 256) (n := 62) (kd := 15) ⟨by decide, rfl⟩ rfl rfl rfl ?_
      refine x_nh (fun s521 e_s521 => ?_)
      have hG_s521 : GI s521 := by rw [e_s521]; exact hG.up (show 0 ≤ z520 ∧ z520 ≤ 120 from (by first | exact x_rbe e_z520 g_z520 rfl rfl | exact x_rb g_z520 rfl rfl | exact ⟨by omega, by omega⟩))
      have f_s521 : FL [4107, 4608, 4672, 4736, 4800, 4864, 4928] s0 s521 := by rw [e_s521]; exact f.up (show 4107 ∈ [4107, 4608, 4672, 4736, 4800, 4864, 4928] from by decide +kernel)
      have q522 : s521 256 10 = z520 := by rw [e_s521]; exact x_up_same
      refine x_A k155_153 (fun _ => rfl) ?_
      refine x_getI k155_154 (f := 10) rfl (q := 256) (n := 62) (kd := 15) ⟨by decide, rfl⟩ (by decide) rfl ?_
      refine x_rw (q522) ?_
      refine x_A k155_157 (fun _ => rfl) ?_
      refine x_isub k155_158 ?_
      refine x_top (fun z523 e_z523 => ?_)
      exact x_iret k155_159 rfl ⟨hG_s521, f_s521, z523, rfl, (by first | exact x_rbe e_z523 g_z523 rfl rfl | exact x_rb g_z523 rfl rfl | exact ⟨by omega, by omega⟩), (by unfold GiR; exact Or.inr (Or.inr (Or.inr ⟨by omega, by omega, by omega, by omega, by omega, fun j => by rw [e_s521, x_up_q (by decide)]; exact w_4 j, fun j => by rw [e_s521, x_up_q (by decide), w_5 j, show x5 = 8 by omega]⟩)))⟩
    · skip
      refine x_A k155_121 (fun _ => rfl) ?_
      refine x_getR k155_122 (f := 16) rfl (q := 256) (n := 62) (kd := 15) ⟨by decide, rfl⟩ (q2 := 269) (by decide) rfl ?_
      refine x_bipush k155_125 (by decide +kernel) ?_
      refine x_A k155_127 (fun _ => rfl) ?_
      refine x_getI k155_128 (f := 10) rfl (q := 256) (n := 62) (kd := 15) ⟨by decide, rfl⟩ (by decide) rfl ?_
      refine x_rw (e_x1000.symm) ?_
      refine x_imul k155_131 ?_
      refine x_top (fun z524 e_z524 => ?_)
      refine x_A k155_132 (fun _ => rfl) ?_
      refine x_iadd k155_134 ?_
      refine x_top (fun z525 e_z525 => ?_)
      refine x_A k155_135 (fun _ => rfl) ?_
      refine x_iast k155_136 (q := 269) (n := 960) ⟨by decide, rfl⟩ (by decide) (by first | exact x_rbel e_z525 g_z525 rfl rfl | exact x_rbl g_z525 rfl rfl | exact ⟨by omega, by omega⟩) ?_
      refine x_nh (fun s526 e_s526 => ?_)
      have hG_s526 : GI s526 := by rw [e_s526]; exact hG.up (show (-1) ≤ (-1) ∧ (-1) ≤ 9 from ⟨by decide, by decide⟩)
      have f_s526 : FL [4107, 4608, 4672, 4736, 4800, 4864, 4928] s0 s526 := by rw [e_s526]; exact f.up (show 4928 ∈ [4107, 4608, 4672, 4736, 4800, 4864, 4928] from by decide +kernel)
      have q527 : s526 256 10 = x1000 := by rw [e_s526, x_up_q (by decide)]; exact e_x1000.symm
      have q528 : s526 269 z525.toNat = (-1) := by rw [e_s526]; exact x_up_same
      refine x_iinc k155_137 (ls' := [(5, vi (x5 + 1)), (0, .ref 256), (1, vi x1), (2, vi x2), (3, vi x3), (4, vi x4)]) rfl (by decide) rfl ?_
      refine x_goto k155_140 (t := 114) rfl ?_
      refine x_ls (l := [(0, .ref 256), (1, vi x1), (2, vi x2), (3, vi x3), (4, vi x4), (5, vi (x5 + 1))]) (show ([0, 1, 2, 3, 4, 5] : List Nat).Nodup from by decide +kernel) ⟨rfl, rfl, rfl, rfl, rfl, rfl, trivial⟩ ?_
      exact ih s526 x1 x2 x3 x4 (x5 + 1) x1000 hG_s526 f_s526 (by first | exact x_rb b_x1 rfl rfl | exact ⟨by omega, by omega⟩) (by first | exact x_rb b_x2 rfl rfl | exact ⟨by omega, by omega⟩) (by first | exact x_rb b_x3 rfl rfl | exact ⟨by omega, by omega⟩) (by first | exact x_rb b_x4 rfl rfl | exact ⟨by omega, by omega⟩) ⟨by omega, by omega⟩ (by first | exact x_rb b_x1000 rfl rfl | exact ⟨by omega, by omega⟩) (by omega) (by omega) (by omega) (by omega) (fun j => by rw [e_s526, x_up_q (by decide)]; exact w_4 j) (by rw [e_s526]; exact db_up w_5 (by omega) (by omega)) (q527).symm  (by omega)
theorem E_X11_give_256 (s0 : xS) (hG0 : GI s0) (a : Int) (b_a : (-2147483648) ≤ a ∧ a ≤ 2147483647) (b : Int) (b_b : (-2147483648) ≤ b ∧ b ≤ 2147483647) (d : Int) (b_d : (-2147483648) ≤ d ∧ d ≤ 2147483647) (e : Int) (b_e : (-2147483648) ≤ e ∧ e ≤ 2147483647) (p_256_10 : 0 ≤ s0 256 10 ∧ s0 256 10 ≤ 120) (p_256_6 : 0 ≤ s0 256 6 ∧ s0 256 6 ≤ 40) (p_256_1 : 1 ≤ s0 256 1 ∧ s0 256 1 ≤ 40) : xe none 155 0 (lv_args 0 [.ref 256, vi a, vi b, vi d, vi e]) [] s0 0 0 (fun s' v => GI s' ∧ FL [4107, 4608, 4672, 4736, 4800, 4864, 4928] s0 s' ∧ ∃ z, v = some (vi z) ∧ ((-1004) ≤ z ∧ z ≤ 119) ∧ (GiR s0 s' a b d e z)) := by
  have f0 : FL [4107, 4608, 4672, 4736, 4800, 4864, 4928] s0 s0 := FL.rf
  show xe none 155 0 [(0, .ref 256), (1, vi a), (2, vi b), (3, vi d), (4, vi e)] [] s0 0 0 _
  obtain ⟨z529, e_z529⟩ : ∃ z, z = s0 256 10 := ⟨_, rfl⟩
  have g_z529 : (0 : Int) ≤ s0 256 10 ∧ s0 256 10 ≤ 120 := hG0 256 10
  obtain ⟨z530, e_z530⟩ : ∃ z, z = s0 256 6 := ⟨_, rfl⟩
  have g_z530 : (0 : Int) ≤ s0 256 6 ∧ s0 256 6 ≤ 40 := hG0 256 6
  obtain ⟨z531, e_z531⟩ : ∃ z, z = s0 256 1 := ⟨_, rfl⟩
  have g_z531 : (1 : Int) ≤ s0 256 1 ∧ s0 256 1 ≤ 40 := hG0 256 1
  refine x_A k155_0 (fun _ => rfl) ?_
  refine x_A k155_1 (fun _ => rfl) ?_
  refine x_callV k155_2 (y := 151) (n := 1) (w0 := 0) (w1 := 1) (as := [vi a]) (rest := []) (by decide +kernel) (q := 256) (nq := 62) (kq := 15) ⟨by decide, rfl⟩ rfl rfl rfl rfl (xe_mono (C_X11_isPicture_256 s0 hG0 a (by first | exact x_rb b_a rfl rfl | exact ⟨by omega, by omega⟩)) ?_)
  rintro s533 v ⟨h_s533, z532, rfl, hz_z532⟩
  rw [h_s533]
  rcases hz_z532 with ⟨c_z532, e_z532⟩ | ⟨c_z532, e_z532⟩
  · rw [e_z532]
    show xe none 155 5 [(0, .ref 256), (1, vi a), (2, vi b), (3, vi d), (4, vi e)] [vi 1] s0 0 0 _
    refine x_if_eq k155_5 (t := 16) rfl ⟨by decide, by decide⟩ (fun c534 => by exfalso; omega) (fun c534 => ?_)
    refine x_A k155_8 (fun _ => rfl) ?_
    refine x_A k155_9 (fun _ => rfl) ?_
    refine x_callV k155_10 (y := 137) (n := 1) (w0 := 0) (w1 := 1) (as := [vi b]) (rest := []) (by decide +kernel) (q := 256) (nq := 62) (kq := 15) ⟨by decide, rfl⟩ rfl rfl rfl rfl (xe_mono (C_X11_isMark_256 s0 hG0 b (by first | exact x_rb b_b rfl rfl | exact ⟨by omega, by omega⟩)) ?_)
    rintro s536 v ⟨h_s536, z535, rfl, hz_z535⟩
    rw [h_s536]
    rcases hz_z535 with ⟨c_z535, e_z535⟩ | ⟨c_z535, e_z535⟩
    · rw [e_z535]
      show xe none 155 13 [(0, .ref 256), (1, vi a), (2, vi b), (3, vi d), (4, vi e)] [vi 1] s0 0 0 _
      refine x_if_ne k155_13 (t := 20) rfl ⟨by decide, by decide⟩ (fun c537 => ?_) (fun c537 => by exfalso; omega)
      refine x_A k155_20 (fun _ => rfl) ?_
      refine x_callS k155_21 (y := 153) (n := 1) (w0 := 0) (w1 := 1) (as := [vi d]) (rest := []) (by decide +kernel) rfl rfl rfl rfl (xe_mono (C_X11_isHand s0 hG0 d (by first | exact x_rb b_d rfl rfl | exact ⟨by omega, by omega⟩)) ?_)
      rintro s539 v ⟨h_s539, z538, rfl, hz_z538⟩
      rw [h_s539]
      rcases hz_z538 with ⟨c_z538, e_z538⟩ | ⟨c_z538, e_z538⟩
      · rw [e_z538]
        show xe none 155 24 [(0, .ref 256), (1, vi a), (2, vi b), (3, vi d), (4, vi e)] [vi 1] s0 0 0 _
        refine x_if_eq k155_24 (t := 40) rfl ⟨by decide, by decide⟩ (fun c540 => by exfalso; omega) (fun c540 => ?_)
        refine x_A k155_27 (fun _ => rfl) ?_
        refine x_i2l k155_29 (by first | exact x_rb b_e rfl rfl | exact ⟨by omega, by omega⟩) ?_
        refine x_lconst k155_30 (z := 0) (by decide +kernel) ?_
        refine x_ldc2 k155_31 (z := 63) rfl (by decide +kernel) ?_
        refine x_callS k155_34 (y := 136) (n := 3) (w0 := 0) (w1 := 6) (as := [vj e, vj 0, vj 63]) (rest := []) (by decide +kernel) rfl rfl rfl rfl (xe_mono (C_X11_in s0 hG0 e ⟨by omega, by omega⟩ 0 ⟨by omega, by omega⟩ 63 ⟨by omega, by omega⟩) ?_)
        rintro s542 v ⟨h_s542, z541, rfl, hz_z541⟩
        rw [h_s542]
        rcases hz_z541 with ⟨c_z541, e_z541⟩ | ⟨c_z541, e_z541⟩
        · rw [e_z541]
          show xe none 155 37 [(0, .ref 256), (1, vi a), (2, vi b), (3, vi d), (4, vi e)] [vi 1] s0 0 0 _
          refine x_if_ne k155_37 (t := 44) rfl ⟨by decide, by decide⟩ (fun c543 => ?_) (fun c543 => by exfalso; omega)
          refine x_A k155_44 (fun _ => rfl) ?_
          refine x_getI k155_45 (f := 10) rfl (q := 256) (n := 62) (kd := 15) ⟨by decide, rfl⟩ (by decide) rfl ?_
          refine x_rw (e_z529.symm) ?_
          refine x_bipush k155_48 (by decide +kernel) ?_
          refine x_ic_ne k155_50 (t := 57) rfl (by first | exact x_rbe e_z529 g_z529 rfl rfl | exact x_rb g_z529 rfl rfl | exact ⟨by omega, by omega⟩) ⟨by decide, by decide⟩ (fun c544 => ?_) (fun c544 => ?_)
          · skip
            refine x_A k155_57 (fun _ => rfl) ?_
            refine x_getR k155_58 (f := 11) rfl (q := 256) (n := 62) (kd := 15) ⟨by decide, rfl⟩ (q2 := 264) (by decide) rfl ?_
            refine x_A k155_61 (fun _ => rfl) ?_
            refine x_getI k155_62 (f := 10) rfl (q := 256) (n := 62) (kd := 15) ⟨by decide, rfl⟩ (by decide) rfl ?_
            refine x_rw (e_z529.symm) ?_
            refine x_A k155_65 (fun _ => rfl) ?_
            refine x_iast k155_66 (q := 264) (n := 120) ⟨by decide, rfl⟩ (by decide) (by first | exact x_rbel e_z529 g_z529 rfl rfl | exact x_rbl g_z529 rfl rfl | exact ⟨by omega, by omega⟩) ?_
            refine x_nh (fun s545 e_s545 => ?_)
            have hG_s545 : GI s545 := by rw [e_s545]; exact hG0.up (show 0 ≤ a ∧ a ≤ 39 from (by first | exact x_rb b_a rfl rfl | exact ⟨by omega, by omega⟩))
            have f_s545 : FL [4107, 4608, 4672, 4736, 4800, 4864, 4928] s0 s545 := by rw [e_s545]; exact f0.up (show 4608 ∈ [4107, 4608, 4672, 4736, 4800, 4864, 4928] from by decide +kernel)
            have q546 : s545 256 10 = z529 := by rw [e_s545, x_up_q (by decide)]; exact e_z529.symm
            have q547 : s545 256 6 = z530 := by rw [e_s545, x_up_q (by decide)]; exact e_z530.symm
            have q548 : s545 256 1 = z531 := by rw [e_s545, x_up_q (by decide)]; exact e_z531.symm
            have q549 : s545 264 z529.toNat = a := by rw [e_s545]; exact x_up_same
            refine x_A k155_67 (fun _ => rfl) ?_
            refine x_getR k155_68 (f := 12) rfl (q := 256) (n := 62) (kd := 15) ⟨by decide, rfl⟩ (q2 := 265) (by decide) rfl ?_
            refine x_A k155_71 (fun _ => rfl) ?_
            refine x_getI k155_72 (f := 10) rfl (q := 256) (n := 62) (kd := 15) ⟨by decide, rfl⟩ (by decide) rfl ?_
            refine x_rw (q546) ?_
            refine x_A k155_75 (fun _ => rfl) ?_
            refine x_iast k155_76 (q := 265) (n := 120) ⟨by decide, rfl⟩ (by decide) (by first | exact x_rbel e_z529 g_z529 rfl rfl | exact x_rbl g_z529 rfl rfl | exact ⟨by omega, by omega⟩) ?_
            refine x_nh (fun s550 e_s550 => ?_)
            have hG_s550 : GI s550 := by rw [e_s550]; exact hG_s545.up (show 0 ≤ b ∧ b ≤ 39 from (by first | exact x_rb b_b rfl rfl | exact ⟨by omega, by omega⟩))
            have f_s550 : FL [4107, 4608, 4672, 4736, 4800, 4864, 4928] s0 s550 := by rw [e_s550]; exact f_s545.up (show 4672 ∈ [4107, 4608, 4672, 4736, 4800, 4864, 4928] from by decide +kernel)
            have q551 : s550 256 10 = z529 := by rw [e_s550, x_up_q (by decide)]; exact q546
            have q552 : s550 256 6 = z530 := by rw [e_s550, x_up_q (by decide)]; exact q547
            have q553 : s550 256 1 = z531 := by rw [e_s550, x_up_q (by decide)]; exact q548
            have q554 : s550 264 z529.toNat = a := by rw [e_s550, x_up_q (by first | decide | omega)]; exact q549
            have q555 : s550 265 z529.toNat = b := by rw [e_s550]; exact x_up_same
            refine x_A k155_77 (fun _ => rfl) ?_
            refine x_getR k155_78 (f := 13) rfl (q := 256) (n := 62) (kd := 15) ⟨by decide, rfl⟩ (q2 := 266) (by decide) rfl ?_
            refine x_A k155_81 (fun _ => rfl) ?_
            refine x_getI k155_82 (f := 10) rfl (q := 256) (n := 62) (kd := 15) ⟨by decide, rfl⟩ (by decide) rfl ?_
            refine x_rw (q551) ?_
            refine x_A k155_85 (fun _ => rfl) ?_
            refine x_iast k155_86 (q := 266) (n := 120) ⟨by decide, rfl⟩ (by decide) (by first | exact x_rbel e_z529 g_z529 rfl rfl | exact x_rbl g_z529 rfl rfl | exact ⟨by omega, by omega⟩) ?_
            refine x_nh (fun s556 e_s556 => ?_)
            have hG_s556 : GI s556 := by rw [e_s556]; exact hG_s550.up (show 0 ≤ d ∧ d ≤ 7 from (by first | exact x_rb b_d rfl rfl | exact ⟨by omega, by omega⟩))
            have f_s556 : FL [4107, 4608, 4672, 4736, 4800, 4864, 4928] s0 s556 := by rw [e_s556]; exact f_s550.up (show 4736 ∈ [4107, 4608, 4672, 4736, 4800, 4864, 4928] from by decide +kernel)
            have q557 : s556 256 10 = z529 := by rw [e_s556, x_up_q (by decide)]; exact q551
            have q558 : s556 256 6 = z530 := by rw [e_s556, x_up_q (by decide)]; exact q552
            have q559 : s556 256 1 = z531 := by rw [e_s556, x_up_q (by decide)]; exact q553
            have q560 : s556 264 z529.toNat = a := by rw [e_s556, x_up_q (by first | decide | omega)]; exact q554
            have q561 : s556 265 z529.toNat = b := by rw [e_s556, x_up_q (by first | decide | omega)]; exact q555
            have q562 : s556 266 z529.toNat = d := by rw [e_s556]; exact x_up_same
            refine x_A k155_87 (fun _ => rfl) ?_
            refine x_getR k155_88 (f := 14) rfl (q := 256) (n := 62) (kd := 15) ⟨by decide, rfl⟩ (q2 := 267) (by decide) rfl ?_
            refine x_A k155_91 (fun _ => rfl) ?_
            refine x_getI k155_92 (f := 10) rfl (q := 256) (n := 62) (kd := 15) ⟨by decide, rfl⟩ (by decide) rfl ?_
            refine x_rw (q557) ?_
            refine x_A k155_95 (fun _ => rfl) ?_
            refine x_iast k155_97 (q := 267) (n := 120) ⟨by decide, rfl⟩ (by decide) (by first | exact x_rbel e_z529 g_z529 rfl rfl | exact x_rbl g_z529 rfl rfl | exact ⟨by omega, by omega⟩) ?_
            refine x_nh (fun s563 e_s563 => ?_)
            have hG_s563 : GI s563 := by rw [e_s563]; exact hG_s556.up (show 0 ≤ e ∧ e ≤ 63 from (by first | exact x_rb b_e rfl rfl | exact ⟨by omega, by omega⟩))
            have f_s563 : FL [4107, 4608, 4672, 4736, 4800, 4864, 4928] s0 s563 := by rw [e_s563]; exact f_s556.up (show 4800 ∈ [4107, 4608, 4672, 4736, 4800, 4864, 4928] from by decide +kernel)
            have q564 : s563 256 10 = z529 := by rw [e_s563, x_up_q (by decide)]; exact q557
            have q565 : s563 256 6 = z530 := by rw [e_s563, x_up_q (by decide)]; exact q558
            have q566 : s563 256 1 = z531 := by rw [e_s563, x_up_q (by decide)]; exact q559
            have q567 : s563 264 z529.toNat = a := by rw [e_s563, x_up_q (by first | decide | omega)]; exact q560
            have q568 : s563 265 z529.toNat = b := by rw [e_s563, x_up_q (by first | decide | omega)]; exact q561
            have q569 : s563 266 z529.toNat = d := by rw [e_s563, x_up_q (by first | decide | omega)]; exact q562
            have q570 : s563 267 z529.toNat = e := by rw [e_s563]; exact x_up_same
            refine x_A k155_98 (fun _ => rfl) ?_
            refine x_getR k155_99 (f := 15) rfl (q := 256) (n := 62) (kd := 15) ⟨by decide, rfl⟩ (q2 := 268) (by decide) rfl ?_
            refine x_A k155_102 (fun _ => rfl) ?_
            refine x_getI k155_103 (f := 10) rfl (q := 256) (n := 62) (kd := 15) ⟨by decide, rfl⟩ (by decide) rfl ?_
            refine x_rw (q564) ?_
            refine x_A k155_106 (fun _ => rfl) ?_
            refine x_getI k155_107 (f := 0) rfl (q := 256) (n := 62) (kd := 15) ⟨by decide, rfl⟩ (by decide) rfl ?_
            refine x_top (fun z571 e_z571 => ?_)
            have g_z571 : (0 : Int) ≤ s563 256 0 ∧ s563 256 0 ≤ 9 := hG_s563 256 0
            refine x_iast k155_110 (q := 268) (n := 120) ⟨by decide, rfl⟩ (by decide) (by first | exact x_rbel e_z529 g_z529 rfl rfl | exact x_rbl g_z529 rfl rfl | exact ⟨by omega, by omega⟩) ?_
            refine x_nh (fun s572 e_s572 => ?_)
            have hG_s572 : GI s572 := by rw [e_s572]; exact hG_s563.up (show 0 ≤ z571 ∧ z571 ≤ 9 from (by first | exact x_rbe e_z571 g_z571 rfl rfl | exact x_rb g_z571 rfl rfl | exact ⟨by omega, by omega⟩))
            have f_s572 : FL [4107, 4608, 4672, 4736, 4800, 4864, 4928] s0 s572 := by rw [e_s572]; exact f_s563.up (show 4864 ∈ [4107, 4608, 4672, 4736, 4800, 4864, 4928] from by decide +kernel)
            have q573 : s572 256 10 = z529 := by rw [e_s572, x_up_q (by decide)]; exact q564
            have q574 : s572 256 6 = z530 := by rw [e_s572, x_up_q (by decide)]; exact q565
            have q575 : s572 256 1 = z531 := by rw [e_s572, x_up_q (by decide)]; exact q566
            have q576 : s572 256 0 = z571 := by rw [e_s572, x_up_q (by decide)]; exact e_z571.symm
            have q577 : s572 264 z529.toNat = a := by rw [e_s572, x_up_q (by first | decide | omega)]; exact q567
            have q578 : s572 265 z529.toNat = b := by rw [e_s572, x_up_q (by first | decide | omega)]; exact q568
            have q579 : s572 266 z529.toNat = d := by rw [e_s572, x_up_q (by first | decide | omega)]; exact q569
            have q580 : s572 267 z529.toNat = e := by rw [e_s572, x_up_q (by first | decide | omega)]; exact q570
            have q581 : s572 268 z529.toNat = z571 := by rw [e_s572]; exact x_up_same
            refine x_A k155_111 (fun _ => rfl) ?_
            refine x_istore k155_112 (ls' := [(5, vi 0), (0, .ref 256), (1, vi a), (2, vi b), (3, vi d), (4, vi e)]) (by decide) rfl ?_
            refine x_ls (l := [(0, .ref 256), (1, vi a), (2, vi b), (3, vi d), (4, vi e), (5, vi 0)]) (show ([0, 1, 2, 3, 4, 5] : List Nat).Nodup from by decide +kernel) ⟨rfl, rfl, rfl, rfl, rfl, rfl, trivial⟩ ?_
            exact L_E_X11_give_256_114 s0 a b_a b b_b d b_d e b_e  (((8 - 0) + 1 : Int)).toNat s572 a b d e 0 z529 hG_s572 f_s572 (by first | exact x_rb b_a rfl rfl | exact ⟨by omega, by omega⟩) (by first | exact x_rb b_b rfl rfl | exact ⟨by omega, by omega⟩) (by first | exact x_rb b_d rfl rfl | exact ⟨by omega, by omega⟩) (by first | exact x_rb b_e rfl rfl | exact ⟨by omega, by omega⟩) ⟨by decide, by decide⟩ (by first | exact x_rbe e_z529 g_z529 rfl rfl | exact x_rb g_z529 rfl rfl | exact ⟨by omega, by omega⟩) (by omega) (by omega) (by omega) (by omega) (fun j => by rw [e_s572, x_up_q (by decide), e_s563, x_up_q (by decide), e_s556, x_up_at, e_s550, x_up_q (by decide), e_s545, x_up_q (by decide), show z529 = s0 256 10 by omega]) (fun j => by rw [if_neg (by omega), e_s572, x_up_q (by decide), e_s563, x_up_q (by decide), e_s556, x_up_q (by decide), e_s550, x_up_q (by decide), e_s545, x_up_q (by decide)]) (q573).symm  (by omega)
          · skip
            refine x_sipush k155_53 (by decide +kernel) ?_
            exact x_iret k155_56 rfl ⟨hG0, f0, (-1004), rfl, ⟨by decide, by decide⟩, (by unfold GiR; exact Or.inr (Or.inr (Or.inl ⟨by omega, by omega, by omega, rfl, rfl, rfl, rfl⟩)))⟩
        · rw [e_z541]
          show xe none 155 37 [(0, .ref 256), (1, vi a), (2, vi b), (3, vi d), (4, vi e)] [vi 0] s0 0 0 _
          refine x_if_ne k155_37 (t := 44) rfl ⟨by decide, by decide⟩ (fun c582 => by exfalso; omega) (fun c582 => ?_)
          refine x_sipush k155_40 (by decide +kernel) ?_
          exact x_iret k155_43 rfl ⟨hG0, f0, (-1002), rfl, ⟨by decide, by decide⟩, (by unfold GiR; exact Or.inr (Or.inl ⟨by omega, by omega, rfl, rfl, rfl, rfl⟩))⟩
      · rw [e_z538]
        show xe none 155 24 [(0, .ref 256), (1, vi a), (2, vi b), (3, vi d), (4, vi e)] [vi 0] s0 0 0 _
        refine x_if_eq k155_24 (t := 40) rfl ⟨by decide, by decide⟩ (fun c583 => ?_) (fun c583 => by exfalso; omega)
        refine x_sipush k155_40 (by decide +kernel) ?_
        exact x_iret k155_43 rfl ⟨hG0, f0, (-1002), rfl, ⟨by decide, by decide⟩, (by unfold GiR; exact Or.inr (Or.inl ⟨by omega, by omega, rfl, rfl, rfl, rfl⟩))⟩
    · rw [e_z535]
      show xe none 155 13 [(0, .ref 256), (1, vi a), (2, vi b), (3, vi d), (4, vi e)] [vi 0] s0 0 0 _
      refine x_if_ne k155_13 (t := 20) rfl ⟨by decide, by decide⟩ (fun c584 => by exfalso; omega) (fun c584 => ?_)
      refine x_sipush k155_16 (by decide +kernel) ?_
      exact x_iret k155_19 rfl ⟨hG0, f0, (-1001), rfl, ⟨by decide, by decide⟩, (by unfold GiR; exact Or.inl ⟨by omega, rfl, rfl, rfl, rfl⟩)⟩
  · rw [e_z532]
    show xe none 155 5 [(0, .ref 256), (1, vi a), (2, vi b), (3, vi d), (4, vi e)] [vi 0] s0 0 0 _
    refine x_if_eq k155_5 (t := 16) rfl ⟨by decide, by decide⟩ (fun c585 => ?_) (fun c585 => by exfalso; omega)
    refine x_sipush k155_16 (by decide +kernel) ?_
    exact x_iret k155_19 rfl ⟨hG0, f0, (-1001), rfl, ⟨by decide, by decide⟩, (by unfold GiR; exact Or.inl ⟨by omega, rfl, rfl, rfl, rfl⟩)⟩
theorem L_E_X2_doubters_50_15 (s0 : xS) (a : Int) (b_a : (-2147483648) ≤ a ∧ a ≤ 2147483647) (b : Int) (b_b : (-2147483648) ≤ b ∧ b ≤ 2147483647)  : ∀ (n : Nat) (s : xS) (x1 : Int) (x2 : Int) (x3 : Int) (x4 : Int) (hG : GI s) (f : FL [] s0 s) (b_x1 : 0 ≤ x1 ∧ x1 ≤ 119) (b_x2 : (-2147483648) ≤ x2 ∧ x2 ≤ 2147483647) (b_x3 : 0 ≤ x3 ∧ x3 ≤ 9) (b_x4 : 0 ≤ x4 ∧ x4 ≤ 8) (r_3_4 : x3 ≤ x4 + 0) (w_0 : x1 = a) (w_1 : x2 = b) (w_2 : 0 ≤ a ∧ a < s0 50 6) (w_3 : x3 = dcn (fun h => s0 (56 + 1 + a.toNat) h.toNat) b x4.toNat)  (hm : (8 - x4) < (n : Int)), xe none 26 15 [(0, .ref 50), (1, vi x1), (2, vi x2), (3, vi x3), (4, vi x4)] [] s 0 0 (fun s' v => GI s' ∧ FL [] s0 s' ∧ ∃ z, v = some (vi z) ∧ (0 ≤ z ∧ z ≤ 8) ∧ ((¬ (0 ≤ a ∧ a < s0 50 6) ∧ z = 0) ∨ ((0 ≤ a ∧ a < s0 50 6) ∧ z = dcn (fun h => s0 (56 + 1 + a.toNat) h.toNat) b 8))) := by
  intro n
  induction n with
  | zero => intro s x1 x2 x3 x4 hG f b_x1 b_x2 b_x3 b_x4 r_3_4 w_0 w_1 w_2 w_3  hm; exfalso; omega
  | succ n ih =>
    intro s x1 x2 x3 x4 hG f b_x1 b_x2 b_x3 b_x4 r_3_4 w_0 w_1 w_2 w_3  hm
    refine x_A k26_15 (fun _ => rfl) ?_
    refine x_bipush k26_17 (by decide +kernel) ?_
    refine x_ic_ge k26_19 (t := 57) rfl (by first | exact x_rb b_x4 rfl rfl | exact ⟨by omega, by omega⟩) ⟨by decide, by decide⟩ (fun c86 => ?_) (fun c86 => ?_)
    · skip
      refine x_A k26_57 (fun _ => rfl) ?_
      exact x_iret k26_58 rfl ⟨hG, f, x3, rfl, (by first | exact x_rb b_x3 rfl rfl | exact ⟨by omega, by omega⟩), Or.inr ⟨by omega, by rw [show x4 = 8 by omega] at w_3; exact w_3⟩⟩
    · skip
      refine x_A k26_22 (fun _ => rfl) ?_
      refine x_getR k26_23 (f := 5) rfl (q := 50) (n := 7) (kd := 6) ⟨by decide, rfl⟩ (q2 := 56) (by decide) rfl ?_
      refine x_A k26_26 (fun _ => rfl) ?_
      refine x_aald k26_27 (q := 56) (t := 23) (n := 120) ⟨by decide, rfl⟩ (by decide) (by decide) ⟨by omega, by omega⟩ ?_
      refine x_A k26_28 (fun _ => rfl) ?_
      refine x_iald k26_30 (q := (56 + 1 + x1.toNat)) (n := 8) (xg_57 (by omega) (by omega)) (by decide) (by first | exact x_rbl b_x4 rfl rfl | exact ⟨by omega, by omega⟩) ?_
      refine x_top (fun z87 e_z87 => ?_)
      have r_z87 := hG (56 + 1 + x1.toNat) x4.toNat
      rw [(gr_57 x4.toNat (show 57 ≤ (56 + 1 + x1.toNat) by omega) (by omega)).1, (gr_57 x4.toNat (show 57 ≤ (56 + 1 + x1.toNat) by omega) (by omega)).2.1, ← e_z87] at r_z87
      have dz := dcn_s (fun h => s0 (56 + 1 + a.toNat) h.toNat) b (k := x4) (z := z87) (by omega) (by rw [← f.nil, ← show x1 = a by omega]; exact e_z87.symm)
      refine x_A k26_31 (fun _ => rfl) ?_
      refine x_ic_eq k26_32 (t := 51) rfl (by first | exact x_rbe e_z87 g_z87 rfl rfl | exact x_rb g_z87 rfl rfl | exact ⟨by omega, by omega⟩) ⟨by decide, by decide⟩ (fun c88 => ?_) (fun c88 => ?_)
      · skip
        refine x_iinc k26_51 (ls' := [(4, vi (x4 + 1)), (0, .ref 50), (1, vi x1), (2, vi x2), (3, vi x3)]) rfl (by decide) rfl ?_
        refine x_goto k26_54 (t := 15) rfl ?_
        refine x_ls (l := [(0, .ref 50), (1, vi x1), (2, vi x2), (3, vi x3), (4, vi (x4 + 1))]) (show ([0, 1, 2, 3, 4] : List Nat).Nodup from by decide +kernel) ⟨rfl, rfl, rfl, rfl, rfl, trivial⟩ ?_
        exact ih s x1 x2 x3 (x4 + 1) hG f (by first | exact x_rb b_x1 rfl rfl | exact ⟨by omega, by omega⟩) (by first | exact x_rb b_x2 rfl rfl | exact ⟨by omega, by omega⟩) (by first | exact x_rb b_x3 rfl rfl | exact ⟨by omega, by omega⟩) ⟨by omega, by omega⟩ (by omega) (by omega) (by omega) (by omega) (by omega)  (by omega)
      · skip
        refine x_A k26_35 (fun _ => rfl) ?_
        refine x_getR k26_36 (f := 5) rfl (q := 50) (n := 7) (kd := 6) ⟨by decide, rfl⟩ (q2 := 56) (by decide) rfl ?_
        refine x_A k26_39 (fun _ => rfl) ?_
        refine x_aald k26_40 (q := 56) (t := 23) (n := 120) ⟨by decide, rfl⟩ (by decide) (by decide) ⟨by omega, by omega⟩ ?_
        refine x_A k26_41 (fun _ => rfl) ?_
        refine x_iald k26_43 (q := (56 + 1 + x1.toNat)) (n := 8) (xg_57 (by omega) (by omega)) (by decide) (by first | exact x_rbl b_x4 rfl rfl | exact ⟨by omega, by omega⟩) ?_
        refine x_rw (e_z87.symm) ?_
        refine x_A k26_44 (fun _ => rfl) ?_
        refine x_ic_gt k26_45 (t := 51) rfl (by first | exact x_rbe e_z87 g_z87 rfl rfl | exact x_rb g_z87 rfl rfl | exact ⟨by omega, by omega⟩) (by first | exact x_rb b_x2 rfl rfl | exact ⟨by omega, by omega⟩) (fun c89 => ?_) (fun c89 => ?_)
        · skip
          refine x_iinc k26_51 (ls' := [(4, vi (x4 + 1)), (0, .ref 50), (1, vi x1), (2, vi x2), (3, vi x3)]) rfl (by decide) rfl ?_
          refine x_goto k26_54 (t := 15) rfl ?_
          refine x_ls (l := [(0, .ref 50), (1, vi x1), (2, vi x2), (3, vi x3), (4, vi (x4 + 1))]) (show ([0, 1, 2, 3, 4] : List Nat).Nodup from by decide +kernel) ⟨rfl, rfl, rfl, rfl, rfl, trivial⟩ ?_
          exact ih s x1 x2 x3 (x4 + 1) hG f (by first | exact x_rb b_x1 rfl rfl | exact ⟨by omega, by omega⟩) (by first | exact x_rb b_x2 rfl rfl | exact ⟨by omega, by omega⟩) (by first | exact x_rb b_x3 rfl rfl | exact ⟨by omega, by omega⟩) ⟨by omega, by omega⟩ (by omega) (by omega) (by omega) (by omega) (by omega)  (by omega)
        · skip
          refine x_iinc k26_48 (ls' := [(3, vi (x3 + 1)), (0, .ref 50), (1, vi x1), (2, vi x2), (4, vi x4)]) rfl (by decide) rfl ?_
          refine x_iinc k26_51 (ls' := [(4, vi (x4 + 1)), (3, vi (x3 + 1)), (0, .ref 50), (1, vi x1), (2, vi x2)]) rfl (by decide) rfl ?_
          refine x_goto k26_54 (t := 15) rfl ?_
          refine x_ls (l := [(0, .ref 50), (1, vi x1), (2, vi x2), (3, vi (x3 + 1)), (4, vi (x4 + 1))]) (show ([0, 1, 2, 3, 4] : List Nat).Nodup from by decide +kernel) ⟨rfl, rfl, rfl, rfl, rfl, trivial⟩ ?_
          exact ih s x1 x2 (x3 + 1) (x4 + 1) hG f (by first | exact x_rb b_x1 rfl rfl | exact ⟨by omega, by omega⟩) (by first | exact x_rb b_x2 rfl rfl | exact ⟨by omega, by omega⟩) ⟨by omega, by omega⟩ ⟨by omega, by omega⟩ (by omega) (by omega) (by omega) (by omega) (by omega)  (by omega)
theorem E_X2_doubters_50 (s0 : xS) (hG0 : GI s0) (a : Int) (b_a : (-2147483648) ≤ a ∧ a ≤ 2147483647) (b : Int) (b_b : (-2147483648) ≤ b ∧ b ≤ 2147483647) (p_50_6 : 0 ≤ s0 50 6 ∧ s0 50 6 ≤ 120) : xe none 26 0 (lv_args 0 [.ref 50, vi a, vi b]) [] s0 0 0 (fun s' v => GI s' ∧ FL [] s0 s' ∧ ∃ z, v = some (vi z) ∧ (0 ≤ z ∧ z ≤ 8) ∧ ((¬ (0 ≤ a ∧ a < s0 50 6) ∧ z = 0) ∨ ((0 ≤ a ∧ a < s0 50 6) ∧ z = dcn (fun h => s0 (56 + 1 + a.toNat) h.toNat) b 8))) := by
  have f0 : FL [] s0 s0 := FL.rf
  show xe none 26 0 [(0, .ref 50), (1, vi a), (2, vi b)] [] s0 0 0 _
  obtain ⟨z90, e_z90⟩ : ∃ z, z = s0 50 6 := ⟨_, rfl⟩
  have g_z90 : (0 : Int) ≤ s0 50 6 ∧ s0 50 6 ≤ 120 := hG0 50 6
  refine x_A k26_0 (fun _ => rfl) ?_
  refine x_A k26_1 (fun _ => rfl) ?_
  refine x_callV k26_2 (y := 24) (n := 1) (w0 := 0) (w1 := 1) (as := [vi a]) (rest := []) (by decide +kernel) (q := 50) (nq := 7) (kq := 6) ⟨by decide, rfl⟩ rfl rfl rfl rfl (xe_mono (C_X2_has_50 s0 hG0 a (by first | exact x_rb b_a rfl rfl | exact ⟨by omega, by omega⟩)) ?_)
  rintro s92 v ⟨h_s92, z91, rfl, hz_z91⟩
  rw [h_s92]
  rcases hz_z91 with ⟨c_z91, e_z91⟩ | ⟨c_z91, e_z91⟩
  · rw [e_z91]
    show xe none 26 5 [(0, .ref 50), (1, vi a), (2, vi b)] [vi 1] s0 0 0 _
    refine x_if_ne k26_5 (t := 10) rfl ⟨by decide, by decide⟩ (fun c93 => ?_) (fun c93 => by exfalso; omega)
    refine x_A k26_10 (fun _ => rfl) ?_
    refine x_istore_n k26_11 (ls' := [(3, vi 0), (0, .ref 50), (1, vi a), (2, vi b)]) (by decide) rfl ?_
    refine x_A k26_12 (fun _ => rfl) ?_
    refine x_istore k26_13 (ls' := [(4, vi 0), (3, vi 0), (0, .ref 50), (1, vi a), (2, vi b)]) (by decide) rfl ?_
    refine x_ls (l := [(0, .ref 50), (1, vi a), (2, vi b), (3, vi 0), (4, vi 0)]) (show ([0, 1, 2, 3, 4] : List Nat).Nodup from by decide +kernel) ⟨rfl, rfl, rfl, rfl, rfl, trivial⟩ ?_
    exact L_E_X2_doubters_50_15 s0 a b_a b b_b  (((8 - 0) + 1 : Int)).toNat s0 a b 0 0 hG0 f0 (by first | exact x_rb b_a rfl rfl | exact ⟨by omega, by omega⟩) (by first | exact x_rb b_b rfl rfl | exact ⟨by omega, by omega⟩) ⟨by decide, by decide⟩ ⟨by decide, by decide⟩ (by omega) (by omega) (by omega) (by omega) (show _ = _ from rfl)  (by omega)
  · rw [e_z91]
    show xe none 26 5 [(0, .ref 50), (1, vi a), (2, vi b)] [vi 0] s0 0 0 _
    refine x_if_ne k26_5 (t := 10) rfl ⟨by decide, by decide⟩ (fun c94 => by exfalso; omega) (fun c94 => ?_)
    refine x_A k26_8 (fun _ => rfl) ?_
    exact x_iret k26_9 rfl ⟨hG0, f0, 0, rfl, ⟨by decide, by decide⟩, Or.inl ⟨by omega, rfl⟩⟩
theorem L_E_X11_doubts_256_5 (s0 : xS) (a : Int) (b_a : 0 ≤ a ∧ a ≤ 119) (b : Int) (b_b : (-2147483648) ≤ b ∧ b ≤ 2147483647)  : ∀ (n : Nat) (s : xS) (x1 : Int) (x2 : Int) (x3 : Int) (x4 : Int) (hG : GI s) (f : FL [] s0 s) (b_x1 : 0 ≤ x1 ∧ x1 ≤ 119) (b_x2 : (-2147483648) ≤ x2 ∧ x2 ≤ 2147483647) (b_x3 : 0 ≤ x3 ∧ x3 ≤ 9) (b_x4 : 0 ≤ x4 ∧ x4 ≤ 8) (r_3_4 : x3 ≤ x4 + 0) (w_0 : x1 = a) (w_1 : x2 = b) (w_2 : x3 = dcn (fun h => s0 269 (8 * a + h).toNat) b x4.toNat)  (hm : (8 - x4) < (n : Int)), xe none 156 5 [(0, .ref 256), (1, vi x1), (2, vi x2), (3, vi x3), (4, vi x4)] [] s 0 0 (fun s' v => GI s' ∧ FL [] s0 s' ∧ ∃ z, v = some (vi z) ∧ (0 ≤ z ∧ z ≤ 8) ∧ (z = dcn (fun h => s0 269 (8 * a + h).toNat) b 8)) := by
  intro n
  induction n with
  | zero => intro s x1 x2 x3 x4 hG f b_x1 b_x2 b_x3 b_x4 r_3_4 w_0 w_1 w_2  hm; exfalso; omega
  | succ n ih =>
    intro s x1 x2 x3 x4 hG f b_x1 b_x2 b_x3 b_x4 r_3_4 w_0 w_1 w_2  hm
    refine x_A k156_5 (fun _ => rfl) ?_
    refine x_bipush k156_7 (by decide +kernel) ?_
    refine x_ic_ge k156_9 (t := 48) rfl (by first | exact x_rb b_x4 rfl rfl | exact ⟨by omega, by omega⟩) ⟨by decide, by decide⟩ (fun c101 => ?_) (fun c101 => ?_)
    · skip
      refine x_A k156_48 (fun _ => rfl) ?_
      exact x_iret k156_49 rfl ⟨hG, f, x3, rfl, (by first | exact x_rb b_x3 rfl rfl | exact ⟨by omega, by omega⟩), (by rw [show x4 = 8 by omega] at w_2; exact w_2)⟩
    · skip
      refine x_A k156_12 (fun _ => rfl) ?_
      refine x_A k156_13 (fun _ => rfl) ?_
      refine x_getR k156_14 (f := 16) rfl (q := 256) (n := 62) (kd := 15) ⟨by decide, rfl⟩ (q2 := 269) (by decide) rfl ?_
      refine x_bipush k156_17 (by decide +kernel) ?_
      refine x_A k156_19 (fun _ => rfl) ?_
      refine x_imul k156_20 ?_
      refine x_top (fun z102 e_z102 => ?_)
      refine x_A k156_21 (fun _ => rfl) ?_
      refine x_iadd k156_23 ?_
      refine x_top (fun z103 e_z103 => ?_)
      refine x_iald k156_24 (q := 269) (n := 960) ⟨by decide, rfl⟩ (by decide) (by first | exact x_rbel e_z103 g_z103 rfl rfl | exact x_rbl g_z103 rfl rfl | exact ⟨by omega, by omega⟩) ?_
      refine x_top (fun z104 e_z104 => ?_)
      have g_z104 : (-1) ≤ s 269 z103.toNat ∧ s 269 z103.toNat ≤ 9 := hG 269 z103.toNat
      have dz := dcn_s (fun h => s0 269 (8 * a + h).toNat) b (k := x4) (z := z104) (by omega) (by rw [← f.nil, show 8 * a + x4 = z103 by omega]; exact e_z104.symm)
      refine x_i2l k156_25 (by first | exact x_rbe e_z104 g_z104 rfl rfl | exact x_rb g_z104 rfl rfl | exact ⟨by omega, by omega⟩) ?_
      refine x_lconst k156_26 (z := 0) (by decide +kernel) ?_
      refine x_A k156_27 (fun _ => rfl) ?_
      refine x_i2l k156_28 (by first | exact x_rb b_x2 rfl rfl | exact ⟨by omega, by omega⟩) ?_
      refine x_callS k156_29 (y := 136) (n := 3) (w0 := 1) (w1 := 6) (as := [vj z104, vj 0, vj x2]) (rest := [vi x3]) (by decide +kernel) rfl rfl rfl rfl (xe_mono (C_X11_in s hG z104 ⟨by omega, by omega⟩ 0 ⟨by omega, by omega⟩ x2 ⟨by omega, by omega⟩) ?_)
      rintro s106 v ⟨h_s106, z105, rfl, hz_z105⟩
      rw [h_s106]
      rcases hz_z105 with ⟨c_z105, e_z105⟩ | ⟨c_z105, e_z105⟩
      · rw [e_z105]
        show xe none 156 32 [(0, .ref 256), (1, vi x1), (2, vi x2), (3, vi x3), (4, vi x4)] [vi 1, vi x3] s 0 0 _
        refine x_if_eq k156_32 (t := 39) rfl ⟨by decide, by decide⟩ (fun c107 => by exfalso; omega) (fun c107 => ?_)
        refine x_A k156_35 (fun _ => rfl) ?_
        refine x_goto k156_36 (t := 40) rfl ?_
        refine x_iadd k156_40 ?_
        refine x_top (fun z108 e_z108 => ?_)
        refine x_istore_n k156_41 (ls' := [(3, vi z108), (0, .ref 256), (1, vi x1), (2, vi x2), (4, vi x4)]) (by decide) rfl ?_
        refine x_iinc k156_42 (ls' := [(4, vi (x4 + 1)), (3, vi z108), (0, .ref 256), (1, vi x1), (2, vi x2)]) rfl (by decide) rfl ?_
        refine x_goto k156_45 (t := 5) rfl ?_
        refine x_ls (l := [(0, .ref 256), (1, vi x1), (2, vi x2), (3, vi z108), (4, vi (x4 + 1))]) (show ([0, 1, 2, 3, 4] : List Nat).Nodup from by decide +kernel) ⟨rfl, rfl, rfl, rfl, rfl, trivial⟩ ?_
        exact ih s x1 x2 z108 (x4 + 1) hG f (by first | exact x_rb b_x1 rfl rfl | exact ⟨by omega, by omega⟩) (by first | exact x_rb b_x2 rfl rfl | exact ⟨by omega, by omega⟩) (by first | exact x_rbe e_z108 g_z108 rfl rfl | exact x_rb g_z108 rfl rfl | exact ⟨by omega, by omega⟩) ⟨by omega, by omega⟩ (by omega) (by omega) (by omega) (by omega)  (by omega)
      · rw [e_z105]
        show xe none 156 32 [(0, .ref 256), (1, vi x1), (2, vi x2), (3, vi x3), (4, vi x4)] [vi 0, vi x3] s 0 0 _
        refine x_if_eq k156_32 (t := 39) rfl ⟨by decide, by decide⟩ (fun c109 => ?_) (fun c109 => by exfalso; omega)
        refine x_A k156_39 (fun _ => rfl) ?_
        refine x_iadd k156_40 ?_
        refine x_top (fun z110 e_z110 => ?_)
        refine x_istore_n k156_41 (ls' := [(3, vi z110), (0, .ref 256), (1, vi x1), (2, vi x2), (4, vi x4)]) (by decide) rfl ?_
        refine x_iinc k156_42 (ls' := [(4, vi (x4 + 1)), (3, vi z110), (0, .ref 256), (1, vi x1), (2, vi x2)]) rfl (by decide) rfl ?_
        refine x_goto k156_45 (t := 5) rfl ?_
        refine x_ls (l := [(0, .ref 256), (1, vi x1), (2, vi x2), (3, vi z110), (4, vi (x4 + 1))]) (show ([0, 1, 2, 3, 4] : List Nat).Nodup from by decide +kernel) ⟨rfl, rfl, rfl, rfl, rfl, trivial⟩ ?_
        exact ih s x1 x2 z110 (x4 + 1) hG f (by first | exact x_rb b_x1 rfl rfl | exact ⟨by omega, by omega⟩) (by first | exact x_rb b_x2 rfl rfl | exact ⟨by omega, by omega⟩) (by first | exact x_rbe e_z110 g_z110 rfl rfl | exact x_rb g_z110 rfl rfl | exact ⟨by omega, by omega⟩) ⟨by omega, by omega⟩ (by omega) (by omega) (by omega) (by omega)  (by omega)
theorem E_X11_doubts_256 (s0 : xS) (hG0 : GI s0) (a : Int) (b_a : 0 ≤ a ∧ a ≤ 119) (b : Int) (b_b : (-2147483648) ≤ b ∧ b ≤ 2147483647) : xe none 156 0 (lv_args 0 [.ref 256, vi a, vi b]) [] s0 0 0 (fun s' v => GI s' ∧ FL [] s0 s' ∧ ∃ z, v = some (vi z) ∧ (0 ≤ z ∧ z ≤ 8) ∧ (z = dcn (fun h => s0 269 (8 * a + h).toNat) b 8)) := by
  have f0 : FL [] s0 s0 := FL.rf
  show xe none 156 0 [(0, .ref 256), (1, vi a), (2, vi b)] [] s0 0 0 _
  refine x_A k156_0 (fun _ => rfl) ?_
  refine x_istore_n k156_1 (ls' := [(3, vi 0), (0, .ref 256), (1, vi a), (2, vi b)]) (by decide) rfl ?_
  refine x_A k156_2 (fun _ => rfl) ?_
  refine x_istore k156_3 (ls' := [(4, vi 0), (3, vi 0), (0, .ref 256), (1, vi a), (2, vi b)]) (by decide) rfl ?_
  refine x_ls (l := [(0, .ref 256), (1, vi a), (2, vi b), (3, vi 0), (4, vi 0)]) (show ([0, 1, 2, 3, 4] : List Nat).Nodup from by decide +kernel) ⟨rfl, rfl, rfl, rfl, rfl, trivial⟩ ?_
  exact L_E_X11_doubts_256_5 s0 a b_a b b_b  (((8 - 0) + 1 : Int)).toNat s0 a b 0 0 hG0 f0 (by first | exact x_rb b_a rfl rfl | exact ⟨by omega, by omega⟩) (by first | exact x_rb b_b rfl rfl | exact ⟨by omega, by omega⟩) ⟨by decide, by decide⟩ ⟨by decide, by decide⟩ (by omega) (by omega) (by omega) (show _ = _ from rfl)  (by omega)
theorem E_X10_doubt_0 (s0 : xS) (hG0 : GI s0) (a : Int) (b_a : (-2147483648) ≤ a ∧ a ≤ 2147483647) (b : Int) (b_b : (-2147483648) ≤ b ∧ b ≤ 2147483647) (p_50_6 : 0 ≤ s0 50 6 ∧ s0 50 6 ≤ 120) (p_0_10 : 0 ≤ s0 0 10 ∧ s0 0 10 ≤ 9) : xe none 99 0 (lv_args 0 [.ref 0, vi a, vi b]) [] s0 0 0 (fun s' v => GI s' ∧ FL [1152, 3276, 3277] s0 s' ∧ ∃ z, v = some (vi z) ∧ ((-1004) ≤ z ∧ z ≤ 8) ∧ (DoC s0 s' a b z)) := by
  have f0 : FL [1152, 3276, 3277] s0 s0 := FL.rf
  show xe none 99 0 [(0, .ref 0), (1, vi a), (2, vi b)] [] s0 0 0 _
  obtain ⟨z1, e_z1⟩ : ∃ z, z = s0 50 6 := ⟨_, rfl⟩
  have g_z1 : (0 : Int) ≤ s0 50 6 ∧ s0 50 6 ≤ 120 := hG0 50 6
  obtain ⟨z2, e_z2⟩ : ∃ z, z = s0 0 10 := ⟨_, rfl⟩
  have g_z2 : (0 : Int) ≤ s0 0 10 ∧ s0 0 10 ≤ 9 := hG0 0 10
  refine x_A k99_0 (fun _ => rfl) ?_
  refine x_getR k99_1 (f := 2) rfl (q := 0) (n := 12) (kd := 3) ⟨by decide, rfl⟩ (q2 := 50) (by decide) rfl ?_
  refine x_A k99_4 (fun _ => rfl) ?_
  refine x_callV k99_5 (y := 24) (n := 1) (w0 := 0) (w1 := 1) (as := [vi a]) (rest := []) (by decide +kernel) (q := 50) (nq := 7) (kq := 6) ⟨by decide, rfl⟩ rfl rfl rfl rfl (xe_mono (C_X2_has_50 s0 hG0 a (by first | exact x_rb b_a rfl rfl | exact ⟨by omega, by omega⟩)) ?_)
  rintro s4 v ⟨h_s4, z3, rfl, hz_z3⟩
  rw [h_s4]
  rcases hz_z3 with ⟨c_z3, e_z3⟩ | ⟨c_z3, e_z3⟩
  · rw [e_z3]
    show xe none 99 8 [(0, .ref 0), (1, vi a), (2, vi b)] [vi 1] s0 0 0 _
    refine x_if_ne k99_8 (t := 15) rfl ⟨by decide, by decide⟩ (fun c5 => ?_) (fun c5 => by exfalso; omega)
    refine x_A k99_15 (fun _ => rfl) ?_
    refine x_callS k99_16 (y := 123) (n := 1) (w0 := 0) (w1 := 1) (as := [vi b]) (rest := []) (by decide +kernel) rfl rfl rfl rfl (xe_mono (C_X10_isHand s0 hG0 b (by first | exact x_rb b_b rfl rfl | exact ⟨by omega, by omega⟩)) ?_)
    rintro s7 v ⟨h_s7, z6, rfl, hz_z6⟩
    rw [h_s7]
    rcases hz_z6 with ⟨c_z6, e_z6⟩ | ⟨c_z6, e_z6⟩
    · rw [e_z6]
      show xe none 99 19 [(0, .ref 0), (1, vi a), (2, vi b)] [vi 1] s0 0 0 _
      refine x_if_ne k99_19 (t := 26) rfl ⟨by decide, by decide⟩ (fun c8 => ?_) (fun c8 => by exfalso; omega)
      refine x_A k99_26 (fun _ => rfl) ?_
      refine x_getR k99_27 (f := 2) rfl (q := 0) (n := 12) (kd := 3) ⟨by decide, rfl⟩ (q2 := 50) (by decide) rfl ?_
      refine x_getR k99_30 (f := 2) rfl (q := 50) (n := 7) (kd := 6) ⟨by decide, rfl⟩ (q2 := 53) (by decide) rfl ?_
      refine x_A k99_33 (fun _ => rfl) ?_
      refine x_iald k99_34 (q := 53) (n := 120) ⟨by decide, rfl⟩ (by decide) (by first | exact x_rbl b_a rfl rfl | exact ⟨by omega, by omega⟩) ?_
      refine x_top (fun z9 e_z9 => ?_)
      have g_z9 : (0 : Int) ≤ s0 53 a.toNat ∧ s0 53 a.toNat ≤ 7 := hG0 53 a.toNat
      refine x_A k99_35 (fun _ => rfl) ?_
      refine x_ic_eq k99_36 (t := 54) rfl (by first | exact x_rbe e_z9 g_z9 rfl rfl | exact x_rb g_z9 rfl rfl | exact ⟨by omega, by omega⟩) (by first | exact x_rb b_b rfl rfl | exact ⟨by omega, by omega⟩) (fun c10 => ?_) (fun c10 => ?_)
      · skip
        refine x_sipush k99_54 (by decide +kernel) ?_
        exact x_iret k99_57 rfl ⟨hG0, f0, (-1003), rfl, ⟨by decide, by decide⟩, (by unfold DoC; exact Or.inr (Or.inr (Or.inl ⟨by omega, by omega, by omega, rfl, fun _ _ _ _ => rfl⟩)))⟩
      · skip
        refine x_A k99_39 (fun _ => rfl) ?_
        refine x_getR k99_40 (f := 2) rfl (q := 0) (n := 12) (kd := 3) ⟨by decide, rfl⟩ (q2 := 50) (by decide) rfl ?_
        refine x_getR k99_43 (f := 5) rfl (q := 50) (n := 7) (kd := 6) ⟨by decide, rfl⟩ (q2 := 56) (by decide) rfl ?_
        refine x_A k99_46 (fun _ => rfl) ?_
        refine x_aald k99_47 (q := 56) (t := 23) (n := 120) ⟨by decide, rfl⟩ (by decide) (by decide) ⟨by omega, by omega⟩ ?_
        refine x_A k99_48 (fun _ => rfl) ?_
        refine x_iald k99_49 (q := (56 + 1 + a.toNat)) (n := 8) (xg_57 (by omega) (by omega)) (by decide) (by first | exact x_rbl b_b rfl rfl | exact ⟨by omega, by omega⟩) ?_
        refine x_top (fun z11 e_z11 => ?_)
        have r_z11 := hG0 (56 + 1 + a.toNat) b.toNat
        rw [(gr_57 b.toNat (show 57 ≤ (56 + 1 + a.toNat) by omega) (by omega)).1, (gr_57 b.toNat (show 57 ≤ (56 + 1 + a.toNat) by omega) (by omega)).2.1, ← e_z11] at r_z11
        refine x_A k99_50 (fun _ => rfl) ?_
        refine x_ic_eq k99_51 (t := 58) rfl (by first | exact x_rbe e_z11 g_z11 rfl rfl | exact x_rb g_z11 rfl rfl | exact ⟨by omega, by omega⟩) ⟨by decide, by decide⟩ (fun c12 => ?_) (fun c12 => ?_)
        · skip
          refine x_A k99_58 (fun _ => rfl) ?_
          refine x_getR k99_59 (f := 9) rfl (q := 0) (n := 12) (kd := 3) ⟨by decide, rfl⟩ (q2 := 243) (by decide) rfl ?_
          refine x_callV k99_62 (y := 73) (n := 0) (w0 := 0) (w1 := 0) (as := []) (rest := []) (by decide +kernel) (q := 243) (nq := 13) (kq := 13) ⟨by decide, rfl⟩ rfl rfl rfl rfl (xe_mono (C_X8_forget_243 s0 hG0) ?_)
          rintro s14 v ⟨hG_s14, t_s14, rfl⟩
          have f_s14 : FL [1152, 3276, 3277] s0 s14 := f0.tr t_s14 (by decide +kernel)
          have q15 : s14 50 6 = z1 := (t_s14 50 6 (show 711 ∉ [3276, 3277] from by decide +kernel)).trans e_z1.symm
          have q16 : s14 0 10 = z2 := (t_s14 0 10 (show 11 ∉ [3276, 3277] from by decide +kernel)).trans e_z2.symm
          have q17 : s14 53 a.toNat = z9 := (t_s14 53 a.toNat (show 896 ∉ [3276, 3277] from by decide +kernel)).trans e_z9.symm
          show xe none 99 65 [(0, .ref 0), (1, vi a), (2, vi b)] [] s14 0 0 _
          have FR := rows120 t_s14 (by decide)
          refine x_A k99_65 (fun _ => rfl) ?_
          refine x_getR k99_66 (f := 2) rfl (q := 0) (n := 12) (kd := 3) ⟨by decide, rfl⟩ (q2 := 50) (by decide) rfl ?_
          refine x_getR k99_69 (f := 5) rfl (q := 50) (n := 7) (kd := 6) ⟨by decide, rfl⟩ (q2 := 56) (by decide) rfl ?_
          refine x_A k99_72 (fun _ => rfl) ?_
          refine x_aald k99_73 (q := 56) (t := 23) (n := 120) ⟨by decide, rfl⟩ (by decide) (by decide) ⟨by omega, by omega⟩ ?_
          refine x_A k99_74 (fun _ => rfl) ?_
          refine x_A k99_75 (fun _ => rfl) ?_
          refine x_getI k99_76 (f := 10) rfl (q := 0) (n := 12) (kd := 3) ⟨by decide, rfl⟩ (by decide) rfl ?_
          refine x_rw (q16) ?_
          refine x_iast k99_79 (q := (56 + 1 + a.toNat)) (n := 8) (xg_57 (by omega) (by omega)) (by decide) (by first | exact x_rbl b_b rfl rfl | exact ⟨by omega, by omega⟩) ?_
          refine x_nh (fun s18 e_s18 => ?_)
          have w19 := gr_57 b.toNat (show 57 ≤ (56 + 1 + a.toNat) by omega) (by omega)
          have hG_s18 : GI s18 := by rw [e_s18]; exact hG_s14.up (by rw [w19.1, w19.2.1]; exact (show (-1) ≤ z2 ∧ z2 ≤ 9 from (by first | exact x_rbe e_z2 g_z2 rfl rfl | exact x_rb g_z2 rfl rfl | exact ⟨by omega, by omega⟩)))
          have f_s18 : FL [1152, 3276, 3277] s0 s18 := by rw [e_s18]; exact f_s14.up (by rw [w19.2.2]; decide)
          have q20 : s18 50 6 = z1 := by rw [e_s18, x_up_q (by omega)]; exact q15
          have q21 : s18 0 10 = z2 := by rw [e_s18, x_up_q (by omega)]; exact q16
          have q22 : s18 53 a.toNat = z9 := by rw [e_s18, x_up_q (by first | decide | omega)]; exact q17
          have q23 : s18 (56 + 1 + a.toNat) b.toNat = z2 := by rw [e_s18]; exact x_up_same
          refine x_A k99_80 (fun _ => rfl) ?_
          refine x_getR k99_81 (f := 2) rfl (q := 0) (n := 12) (kd := 3) ⟨by decide, rfl⟩ (q2 := 50) (by decide) rfl ?_
          refine x_A k99_84 (fun _ => rfl) ?_
          refine x_A k99_85 (fun _ => rfl) ?_
          refine x_getI k99_86 (f := 10) rfl (q := 0) (n := 12) (kd := 3) ⟨by decide, rfl⟩ (by decide) rfl ?_
          refine x_rw (q21) ?_
          refine x_callV k99_89 (y := 26) (n := 2) (w0 := 0) (w1 := 2) (as := [vi a, vi z2]) (rest := []) (by decide +kernel) (q := 50) (nq := 7) (kq := 6) ⟨by decide, rfl⟩ rfl rfl rfl rfl (xe_mono (E_X2_doubters_50 s18 hG_s18 a (by first | exact x_rb b_a rfl rfl | exact ⟨by omega, by omega⟩) z2 (by first | exact x_rbe e_z2 g_z2 rfl rfl | exact x_rb g_z2 rfl rfl | exact ⟨by omega, by omega⟩) ⟨by omega, by omega⟩) ?_)
          rintro s25 v ⟨-, t_s25, z24, rfl, g_z24, xp_z24⟩
          rw [t_s25.nil]
          try rw [t_s25.nil] at xp_z24
          show xe none 99 92 [(0, .ref 0), (1, vi a), (2, vi b)] [vi z24] s18 0 0 _
          exact x_iret k99_92 rfl ⟨hG_s18, f_s18, z24, rfl, (by first | exact x_rbe e_z24 g_z24 rfl rfl | exact x_rb g_z24 rfl rfl | exact ⟨by omega, by omega⟩), (by unfold DoC; exact xp_z24.elim (fun ⟨u1, u2⟩ => by exfalso; omega) (fun ⟨u1, u2⟩ => Or.inr (Or.inr (Or.inr ⟨by omega, by omega, by omega, by rw [u2, show z2 = s0 0 10 by omega], fun r j h1 h2 => by rw [e_s18, x_up_def, show z2 = s0 0 10 by omega, FR r j h1 h2]⟩))))⟩
        · skip
          refine x_sipush k99_54 (by decide +kernel) ?_
          exact x_iret k99_57 rfl ⟨hG0, f0, (-1003), rfl, ⟨by decide, by decide⟩, (by unfold DoC; exact Or.inr (Or.inr (Or.inl ⟨by omega, by omega, by omega, rfl, fun _ _ _ _ => rfl⟩)))⟩
    · rw [e_z6]
      show xe none 99 19 [(0, .ref 0), (1, vi a), (2, vi b)] [vi 0] s0 0 0 _
      refine x_if_ne k99_19 (t := 26) rfl ⟨by decide, by decide⟩ (fun c26 => by exfalso; omega) (fun c26 => ?_)
      refine x_sipush k99_22 (by decide +kernel) ?_
      exact x_iret k99_25 rfl ⟨hG0, f0, (-1002), rfl, ⟨by decide, by decide⟩, (by unfold DoC; exact Or.inr (Or.inl ⟨by omega, by omega, rfl, fun _ _ _ _ => rfl⟩))⟩
  · rw [e_z3]
    show xe none 99 8 [(0, .ref 0), (1, vi a), (2, vi b)] [vi 0] s0 0 0 _
    refine x_if_ne k99_8 (t := 15) rfl ⟨by decide, by decide⟩ (fun c27 => by exfalso; omega) (fun c27 => ?_)
    refine x_sipush k99_11 (by decide +kernel) ?_
    exact x_iret k99_14 rfl ⟨hG0, f0, (-1001), rfl, ⟨by decide, by decide⟩, (by unfold DoC; exact Or.inl ⟨by omega, rfl, fun _ _ _ _ => rfl⟩)⟩
theorem E_X11_doubt_256 (s0 : xS) (hG0 : GI s0) (a : Int) (b_a : (-2147483648) ≤ a ∧ a ≤ 2147483647) (b : Int) (b_b : (-2147483648) ≤ b ∧ b ≤ 2147483647) (p_256_10 : 0 ≤ s0 256 10 ∧ s0 256 10 ≤ 120) (p_256_0 : 0 ≤ s0 256 0 ∧ s0 256 0 ≤ 9) : xe none 157 0 (lv_args 0 [.ref 256, vi a, vi b]) [] s0 0 0 (fun s' v => GI s' ∧ FL [4928] s0 s' ∧ ∃ z, v = some (vi z) ∧ ((-1004) ≤ z ∧ z ≤ 8) ∧ (DoR s0 s' a b z)) := by
  have f0 : FL [4928] s0 s0 := FL.rf
  show xe none 157 0 [(0, .ref 256), (1, vi a), (2, vi b)] [] s0 0 0 _
  obtain ⟨z1, e_z1⟩ : ∃ z, z = s0 256 10 := ⟨_, rfl⟩
  have g_z1 : (0 : Int) ≤ s0 256 10 ∧ s0 256 10 ≤ 120 := hG0 256 10
  obtain ⟨z2, e_z2⟩ : ∃ z, z = s0 256 0 := ⟨_, rfl⟩
  have g_z2 : (0 : Int) ≤ s0 256 0 ∧ s0 256 0 ≤ 9 := hG0 256 0
  refine x_A k157_0 (fun _ => rfl) ?_
  refine x_A k157_1 (fun _ => rfl) ?_
  refine x_callV k157_2 (y := 152) (n := 1) (w0 := 0) (w1 := 1) (as := [vi a]) (rest := []) (by decide +kernel) (q := 256) (nq := 62) (kq := 15) ⟨by decide, rfl⟩ rfl rfl rfl rfl (xe_mono (C_X11_isGiving_256 s0 hG0 a (by first | exact x_rb b_a rfl rfl | exact ⟨by omega, by omega⟩)) ?_)
  rintro s4 v ⟨h_s4, z3, rfl, hz_z3⟩
  rw [h_s4]
  rcases hz_z3 with ⟨c_z3, e_z3⟩ | ⟨c_z3, e_z3⟩
  · rw [e_z3]
    show xe none 157 5 [(0, .ref 256), (1, vi a), (2, vi b)] [vi 1] s0 0 0 _
    refine x_if_ne k157_5 (t := 12) rfl ⟨by decide, by decide⟩ (fun c5 => ?_) (fun c5 => by exfalso; omega)
    refine x_A k157_12 (fun _ => rfl) ?_
    refine x_callS k157_13 (y := 153) (n := 1) (w0 := 0) (w1 := 1) (as := [vi b]) (rest := []) (by decide +kernel) rfl rfl rfl rfl (xe_mono (C_X11_isHand s0 hG0 b (by first | exact x_rb b_b rfl rfl | exact ⟨by omega, by omega⟩)) ?_)
    rintro s7 v ⟨h_s7, z6, rfl, hz_z6⟩
    rw [h_s7]
    rcases hz_z6 with ⟨c_z6, e_z6⟩ | ⟨c_z6, e_z6⟩
    · rw [e_z6]
      show xe none 157 16 [(0, .ref 256), (1, vi a), (2, vi b)] [vi 1] s0 0 0 _
      refine x_if_ne k157_16 (t := 23) rfl ⟨by decide, by decide⟩ (fun c8 => ?_) (fun c8 => by exfalso; omega)
      refine x_A k157_23 (fun _ => rfl) ?_
      refine x_A k157_24 (fun _ => rfl) ?_
      refine x_getR k157_25 (f := 13) rfl (q := 256) (n := 62) (kd := 15) ⟨by decide, rfl⟩ (q2 := 266) (by decide) rfl ?_
      refine x_A k157_28 (fun _ => rfl) ?_
      refine x_iald k157_29 (q := 266) (n := 120) ⟨by decide, rfl⟩ (by decide) (by first | exact x_rbl b_a rfl rfl | exact ⟨by omega, by omega⟩) ?_
      refine x_top (fun z9 e_z9 => ?_)
      have g_z9 : (0 : Int) ≤ s0 266 a.toNat ∧ s0 266 a.toNat ≤ 7 := hG0 266 a.toNat
      refine x_ic_eq k157_30 (t := 47) rfl (by first | exact x_rb b_b rfl rfl | exact ⟨by omega, by omega⟩) (by first | exact x_rbe e_z9 g_z9 rfl rfl | exact x_rb g_z9 rfl rfl | exact ⟨by omega, by omega⟩) (fun c10 => ?_) (fun c10 => ?_)
      · skip
        have FUL : (b = s0 266 a.toNat ∨ 0 ≤ s0 269 (8 * a + b).toNat) := (by omega)
        refine x_sipush k157_47 (by decide +kernel) ?_
        exact x_iret k157_50 rfl ⟨hG0, f0, (-1003), rfl, ⟨by decide, by decide⟩, (by unfold DoR; exact Or.inr (Or.inr (Or.inl ⟨by omega, by omega, FUL, rfl, rfl⟩)))⟩
      · skip
        refine x_A k157_33 (fun _ => rfl) ?_
        refine x_getR k157_34 (f := 16) rfl (q := 256) (n := 62) (kd := 15) ⟨by decide, rfl⟩ (q2 := 269) (by decide) rfl ?_
        refine x_bipush k157_37 (by decide +kernel) ?_
        refine x_A k157_39 (fun _ => rfl) ?_
        refine x_imul k157_40 ?_
        refine x_top (fun z11 e_z11 => ?_)
        refine x_A k157_41 (fun _ => rfl) ?_
        refine x_iadd k157_42 ?_
        refine x_top (fun z12 e_z12 => ?_)
        refine x_iald k157_43 (q := 269) (n := 960) ⟨by decide, rfl⟩ (by decide) (by first | exact x_rbel e_z12 g_z12 rfl rfl | exact x_rbl g_z12 rfl rfl | exact ⟨by omega, by omega⟩) ?_
        refine x_top (fun z13 e_z13 => ?_)
        have g_z13 : (-1) ≤ s0 269 z12.toNat ∧ s0 269 z12.toNat ≤ 9 := hG0 269 z12.toNat
        refine x_if_lt k157_44 (t := 51) rfl (by first | exact x_rbe e_z13 g_z13 rfl rfl | exact x_rb g_z13 rfl rfl | exact ⟨by omega, by omega⟩) (fun c14 => ?_) (fun c14 => ?_)
        · skip
          have NF : (b ≠ s0 266 a.toNat ∧ s0 269 (8 * a + b).toNat < 0) := (by rw [← show z12 = 8 * a + b by omega, e_z13.symm]; omega)
          refine x_A k157_51 (fun _ => rfl) ?_
          refine x_getR k157_52 (f := 16) rfl (q := 256) (n := 62) (kd := 15) ⟨by decide, rfl⟩ (q2 := 269) (by decide) rfl ?_
          refine x_bipush k157_55 (by decide +kernel) ?_
          refine x_A k157_57 (fun _ => rfl) ?_
          refine x_imul k157_58 ?_
          refine x_top (fun z15 e_z15 => ?_)
          refine x_A k157_59 (fun _ => rfl) ?_
          refine x_iadd k157_60 ?_
          refine x_top (fun z16 e_z16 => ?_)
          refine x_A k157_61 (fun _ => rfl) ?_
          refine x_getI k157_62 (f := 0) rfl (q := 256) (n := 62) (kd := 15) ⟨by decide, rfl⟩ (by decide) rfl ?_
          refine x_rw (e_z2.symm) ?_
          refine x_iast k157_65 (q := 269) (n := 960) ⟨by decide, rfl⟩ (by decide) (by first | exact x_rbel e_z16 g_z16 rfl rfl | exact x_rbl g_z16 rfl rfl | exact ⟨by omega, by omega⟩) ?_
          refine x_nh (fun s17 e_s17 => ?_)
          have hG_s17 : GI s17 := by rw [e_s17]; exact hG0.up (show (-1) ≤ z2 ∧ z2 ≤ 9 from (by first | exact x_rbe e_z2 g_z2 rfl rfl | exact x_rb g_z2 rfl rfl | exact ⟨by omega, by omega⟩))
          have f_s17 : FL [4928] s0 s17 := by rw [e_s17]; exact f0.up (show 4928 ∈ [4928] from by decide +kernel)
          have q18 : s17 256 10 = z1 := by rw [e_s17, x_up_q (by decide)]; exact e_z1.symm
          have q19 : s17 256 0 = z2 := by rw [e_s17, x_up_q (by decide)]; exact e_z2.symm
          have q20 : s17 266 a.toNat = z9 := by rw [e_s17, x_up_q (by first | decide | omega)]; exact e_z9.symm
          have q21 : s17 269 z16.toNat = z2 := by rw [e_s17]; exact x_up_same
          refine x_A k157_66 (fun _ => rfl) ?_
          refine x_A k157_67 (fun _ => rfl) ?_
          refine x_A k157_68 (fun _ => rfl) ?_
          refine x_getI k157_69 (f := 0) rfl (q := 256) (n := 62) (kd := 15) ⟨by decide, rfl⟩ (by decide) rfl ?_
          refine x_rw (q19) ?_
          refine x_callV k157_72 (y := 156) (n := 2) (w0 := 0) (w1 := 2) (as := [vi a, vi z2]) (rest := []) (by decide +kernel) (q := 256) (nq := 62) (kq := 15) ⟨by decide, rfl⟩ rfl rfl rfl rfl (xe_mono (E_X11_doubts_256 s17 hG_s17 a (by first | exact x_rb b_a rfl rfl | exact ⟨by omega, by omega⟩) z2 (by first | exact x_rbe e_z2 g_z2 rfl rfl | exact x_rb g_z2 rfl rfl | exact ⟨by omega, by omega⟩)) ?_)
          rintro s23 v ⟨-, t_s23, z22, rfl, g_z22, xp_z22⟩
          rw [t_s23.nil]
          try rw [t_s23.nil] at xp_z22
          show xe none 157 75 [(0, .ref 256), (1, vi a), (2, vi b)] [vi z22] s17 0 0 _
          exact x_iret k157_75 rfl ⟨hG_s17, f_s17, z22, rfl, (by first | exact x_rbe e_z22 g_z22 rfl rfl | exact x_rb g_z22 rfl rfl | exact ⟨by omega, by omega⟩), (by unfold DoR; exact Or.inr (Or.inr (Or.inr ⟨by omega, by omega, NF, by rw [xp_z22, show z2 = s0 256 0 by omega], fun j => by rw [e_s17, x_up_at, show z16 = 8 * a + b by omega, show z2 = s0 256 0 by omega]⟩)))⟩
        · skip
          have FUL : (b = s0 266 a.toNat ∨ 0 ≤ s0 269 (8 * a + b).toNat) := (by rw [← show z12 = 8 * a + b by omega, e_z13.symm]; omega)
          refine x_sipush k157_47 (by decide +kernel) ?_
          exact x_iret k157_50 rfl ⟨hG0, f0, (-1003), rfl, ⟨by decide, by decide⟩, (by unfold DoR; exact Or.inr (Or.inr (Or.inl ⟨by omega, by omega, FUL, rfl, rfl⟩)))⟩
    · rw [e_z6]
      show xe none 157 16 [(0, .ref 256), (1, vi a), (2, vi b)] [vi 0] s0 0 0 _
      refine x_if_ne k157_16 (t := 23) rfl ⟨by decide, by decide⟩ (fun c24 => by exfalso; omega) (fun c24 => ?_)
      refine x_sipush k157_19 (by decide +kernel) ?_
      exact x_iret k157_22 rfl ⟨hG0, f0, (-1002), rfl, ⟨by decide, by decide⟩, (by unfold DoR; exact Or.inr (Or.inl ⟨by omega, by omega, rfl, rfl⟩))⟩
  · rw [e_z3]
    show xe none 157 5 [(0, .ref 256), (1, vi a), (2, vi b)] [vi 0] s0 0 0 _
    refine x_if_ne k157_5 (t := 12) rfl ⟨by decide, by decide⟩ (fun c25 => by exfalso; omega) (fun c25 => ?_)
    refine x_sipush k157_8 (by decide +kernel) ?_
    exact x_iret k157_11 rfl ⟨hG0, f0, (-1001), rfl, ⟨by decide, by decide⟩, (by unfold DoR; exact Or.inl ⟨by omega, rfl, rfl⟩)⟩
