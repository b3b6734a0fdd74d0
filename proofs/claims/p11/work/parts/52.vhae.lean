set_option maxHeartbeats 8000000 in
theorem V_X10_split_0 (s0 : xS) (hG0 : GI s0) (hJ0 : J s0) (a : Int) (b_a : (-2147483648) ≤ a ∧ a ≤ 2147483647) (b : Int) (b_b : (-2147483648) ≤ b ∧ b ≤ 2147483647) (d : Int) (b_d : (-2147483648) ≤ d ∧ d ≤ 2147483647) (pR : R1 s0) (i0_VCj : VCj s0) : xe none 120 0 (lv_args 0 [.ref 0, vi a, vi b, vi d]) [] s0 0 0 (fun s' v => GI s' ∧ FL [3329, 3334, 3335, 3336, 3392, 3456, 3520, 3584, 3276, 3648, 3712, 3776, 3840, 3904, 3968, 3277, 4032] s0 s' ∧ ∃ z, v = some (vi z) ∧ ((-1004) ≤ z ∧ z ≤ 127) ∧ VCj s') := by
  have f0 : FL [3329, 3334, 3335, 3336, 3392, 3456, 3520, 3584, 3276, 3648, 3712, 3776, 3840, 3904, 3968, 3277, 4032] s0 s0 := FL.rf
  show xe none 120 0 [(0, .ref 0), (1, vi a), (2, vi b), (3, vi d)] [] s0 0 0 _
  refine x_A k120_0 (fun _ => rfl) ?_
  refine x_getR k120_1 (f := 0) rfl (q := 0) (n := 12) (kd := 3) ⟨by decide, rfl⟩ (q2 := 1) (by decide) rfl ?_
  refine x_A k120_4 (fun _ => rfl) ?_
  obtain ⟨z529, e_z529⟩ : ∃ z, z = s0 1 4 := ⟨_, rfl⟩
  have g_z529 : (1 : Int) ≤ s0 1 4 ∧ s0 1 4 ≤ 40 := hG0 1 4
  refine x_callV k120_5 (y := 59) (n := 1) (w0 := 0) (w1 := 1) (as := [vi a]) (rest := []) (by decide +kernel) (q := 1) (nq := 5) (kq := 4) ⟨by decide, rfl⟩ rfl rfl rfl rfl (xe_mono (C_X7_has_1 s0 hG0 a (by first | exact x_rb b_a rfl rfl | exact ⟨by omega, by omega⟩)) ?_)
  rintro s531 v ⟨h_s531, z530, rfl, hz_z530⟩
  rw [h_s531]
  rcases hz_z530 with ⟨c_z530, e_z530⟩ | ⟨c_z530, e_z530⟩
  · rw [e_z530]
    show xe none 120 8 [(0, .ref 0), (1, vi a), (2, vi b), (3, vi d)] [vi 1] s0 0 0 _
    refine x_if_ne k120_8 (t := 15) rfl ⟨by decide, by decide⟩ (fun c532 => ?_) (fun c532 => by exfalso; omega)
    refine x_A k120_15 (fun _ => rfl) ?_
    refine x_A k120_16 (fun _ => rfl) ?_
    obtain ⟨z533, e_z533⟩ : ∃ z, z = s0 0 10 := ⟨_, rfl⟩
    have g_z533 : (0 : Int) ≤ s0 0 10 ∧ s0 0 10 ≤ 9 := hG0 0 10
    refine x_callV k120_17 (y := 125) (n := 1) (w0 := 0) (w1 := 1) (as := [vi b]) (rest := []) (by decide +kernel) (q := 0) (nq := 12) (kq := 3) ⟨by decide, rfl⟩ rfl rfl rfl rfl (xe_mono (C_X10_isKnownEdition_0 s0 hG0 b (by first | exact x_rb b_b rfl rfl | exact ⟨by omega, by omega⟩)) ?_)
    rintro s535 v ⟨h_s535, z534, rfl, hz_z534⟩
    rw [h_s535]
    rcases hz_z534 with ⟨c_z534, e_z534⟩ | ⟨c_z534, e_z534⟩
    · rw [e_z534]
      show xe none 120 20 [(0, .ref 0), (1, vi a), (2, vi b), (3, vi d)] [vi 1] s0 0 0 _
      refine x_if_eq k120_20 (t := 32) rfl ⟨by decide, by decide⟩ (fun c536 => by exfalso; omega) (fun c536 => ?_)
      refine x_A k120_23 (fun _ => rfl) ?_
      refine x_A k120_24 (fun _ => rfl) ?_
      refine x_A k120_25 (fun _ => rfl) ?_
      refine x_callS k120_26 (y := 121) (n := 3) (w0 := 0) (w1 := 3) (as := [vi d, vi 0, vi 1]) (rest := []) (by decide +kernel) rfl rfl rfl rfl (xe_mono (C_X10_isWithin s0 hG0 d (by first | exact x_rb b_d rfl rfl | exact ⟨by omega, by omega⟩) 0 ⟨by decide, by decide⟩ 1 ⟨by decide, by decide⟩) ?_)
      rintro s538 v ⟨h_s538, z537, rfl, hz_z537⟩
      rw [h_s538]
      rcases hz_z537 with ⟨c_z537, e_z537⟩ | ⟨c_z537, e_z537⟩
      · rw [e_z537]
        show xe none 120 29 [(0, .ref 0), (1, vi a), (2, vi b), (3, vi d)] [vi 1] s0 0 0 _
        refine x_if_ne k120_29 (t := 36) rfl ⟨by decide, by decide⟩ (fun c539 => ?_) (fun c539 => by exfalso; omega)
        refine x_A k120_36 (fun _ => rfl) ?_
        refine x_getR k120_37 (f := 9) rfl (q := 0) (n := 12) (kd := 3) ⟨by decide, rfl⟩ (q2 := 243) (by decide) rfl ?_
        refine x_A k120_40 (fun _ => rfl) ?_
        refine x_callV k120_41 (y := 76) (n := 1) (w0 := 0) (w1 := 1) (as := [vi b]) (rest := []) (by decide +kernel) (q := 243) (nq := 13) (kq := 13) ⟨by decide, rfl⟩ rfl rfl rfl rfl (xe_mono (V_X8_lookIn_243 s0 hG0 (hJ0.fl f0 (by decide)) b (by first | exact x_rb b_b rfl rfl | exact ⟨by omega, by omega⟩) (pR.fl f0 (by decide)) i0_VCj) ?_)
        rintro s541 v ⟨hG_s541, t_s541, rfl, VCj_s541⟩
        have f_s541 : FL [3329, 3334, 3335, 3336, 3392, 3456, 3520, 3584, 3276, 3648, 3712, 3776, 3840, 3904, 3968, 3277, 4032] s0 s541 := f0.tr t_s541 (by decide)
        have q542 : s541 1 4 = z529 := (t_s541 1 4 (show 69 ∉ [3329, 3334, 3335, 3336, 3392, 3456, 3520, 3584, 3276, 3648, 3712, 3776, 3840, 3904, 3968, 3277, 4032] from by decide)).trans e_z529.symm
        have q543 : s541 0 10 = z533 := (t_s541 0 10 (show 11 ∉ [3329, 3334, 3335, 3336, 3392, 3456, 3520, 3584, 3276, 3648, 3712, 3776, 3840, 3904, 3968, 3277, 4032] from by decide)).trans e_z533.symm
        show xe none 120 44 [(0, .ref 0), (1, vi a), (2, vi b), (3, vi d)] [] s541 0 0 _
        refine x_A k120_44 (fun _ => rfl) ?_
        refine x_getR k120_45 (f := 9) rfl (q := 0) (n := 12) (kd := 3) ⟨by decide, rfl⟩ (q2 := 243) (by decide) rfl ?_
        refine x_A k120_48 (fun _ => rfl) ?_
        refine x_callV k120_49 (y := 79) (n := 1) (w0 := 0) (w1 := 1) (as := [vi a]) (rest := []) (by decide +kernel) (q := 243) (nq := 13) (kq := 13) ⟨by decide, rfl⟩ rfl rfl rfl rfl (xe_mono (C_X8_showing_243 s541 hG_s541 a (by first | exact x_rb b_a rfl rfl | exact ⟨by omega, by omega⟩)) ?_)
        rintro s545 v ⟨-, t_s545, z544, rfl, b_z544⟩
        rw [t_s545.nil]
        show xe none 120 52 [(0, .ref 0), (1, vi a), (2, vi b), (3, vi d)] [vj z544] s541 0 0 _
        refine x_lstore k120_52 (ls' := [(4, vj z544), (0, .ref 0), (1, vi a), (2, vi b), (3, vi d)]) (by decide) rfl ?_
        refine x_A k120_54 (fun _ => rfl) ?_
        refine x_istore k120_55 (ls' := [(6, vi (-1)), (4, vj z544), (0, .ref 0), (1, vi a), (2, vi b), (3, vi d)]) (by decide) rfl ?_
        refine x_A k120_57 (fun _ => rfl) ?_
        refine x_istore k120_58 (ls' := [(7, vi (-1)), (6, vi (-1)), (4, vj z544), (0, .ref 0), (1, vi a), (2, vi b), (3, vi d)]) (by decide) rfl ?_
        refine x_A k120_60 (fun _ => rfl) ?_
        refine x_istore k120_61 (ls' := [(8, vi 0), (7, vi (-1)), (6, vi (-1)), (4, vj z544), (0, .ref 0), (1, vi a), (2, vi b), (3, vi d)]) (by decide) rfl ?_
        refine x_ls (l := [(0, .ref 0), (1, vi a), (2, vi b), (3, vi d), (4, vj z544), (6, vi (-1)), (7, vi (-1)), (8, vi 0)]) (show ([0, 1, 2, 3, 4, 6, 7, 8] : List Nat).Nodup from by decide) ⟨rfl, rfl, rfl, rfl, rfl, rfl, rfl, rfl, trivial⟩ ?_
        exact L_V_X10_split_0_63 s0 hJ0 a b_a b b_b d b_d pR  (((40 - 0) + 1 : Int)).toNat s541 a b d z544 (-1) (-1) 0 hG_s541 f_s541 (by first | exact x_rb b_a rfl rfl | exact ⟨by omega, by omega⟩) (by first | exact x_rb b_b rfl rfl | exact ⟨by omega, by omega⟩) (by first | exact x_rb b_d rfl rfl | exact ⟨by omega, by omega⟩) b_z544 ⟨by decide, by decide⟩ ⟨by decide, by decide⟩ ⟨by decide, by decide⟩ (by omega) VCj_s541  (by omega)
      · rw [e_z537]
        show xe none 120 29 [(0, .ref 0), (1, vi a), (2, vi b), (3, vi d)] [vi 0] s0 0 0 _
        refine x_if_ne k120_29 (t := 36) rfl ⟨by decide, by decide⟩ (fun c546 => by exfalso; omega) (fun c546 => ?_)
        refine x_sipush k120_32 (by decide +kernel) ?_
        exact x_iret k120_35 rfl ⟨hG0, f0, (-1002), rfl, ⟨by decide, by decide⟩, i0_VCj⟩
    · rw [e_z534]
      show xe none 120 20 [(0, .ref 0), (1, vi a), (2, vi b), (3, vi d)] [vi 0] s0 0 0 _
      refine x_if_eq k120_20 (t := 32) rfl ⟨by decide, by decide⟩ (fun c547 => ?_) (fun c547 => by exfalso; omega)
      refine x_sipush k120_32 (by decide +kernel) ?_
      exact x_iret k120_35 rfl ⟨hG0, f0, (-1002), rfl, ⟨by decide, by decide⟩, i0_VCj⟩
  · rw [e_z530]
    show xe none 120 8 [(0, .ref 0), (1, vi a), (2, vi b), (3, vi d)] [vi 0] s0 0 0 _
    refine x_if_ne k120_8 (t := 15) rfl ⟨by decide, by decide⟩ (fun c548 => by exfalso; omega) (fun c548 => ?_)
    refine x_sipush k120_11 (by decide +kernel) ?_
    exact x_iret k120_14 rfl ⟨hG0, f0, (-1001), rfl, ⟨by decide, by decide⟩, i0_VCj⟩
