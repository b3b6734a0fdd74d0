set_option maxHeartbeats 8000000 in
theorem V_X11_give_256 (s0 : xS) (hG0 : GI s0) (a : Int) (b_a : (-2147483648) ≤ a ∧ a ≤ 2147483647) (b : Int) (b_b : (-2147483648) ≤ b ∧ b ≤ 2147483647) (d : Int) (b_d : (-2147483648) ≤ d ∧ d ≤ 2147483647) (e : Int) (b_e : (-2147483648) ≤ e ∧ e ≤ 2147483647) (p_256_10 : 0 ≤ s0 256 10 ∧ s0 256 10 ≤ 120) (p_256_6 : 0 ≤ s0 256 6 ∧ s0 256 6 ≤ 40) (p_256_1 : 1 ≤ s0 256 1 ∧ s0 256 1 ≤ 40) (p_256_0 : 0 ≤ s0 256 0 ∧ s0 256 0 ≤ 9) : xe none 155 0 (lv_args 0 [.ref 256, vi a, vi b, vi d, vi e]) [] s0 0 0 (fun s' v => GI s' ∧ FL [4107, 4608, 4672, 4736, 4800, 4864, 4928] s0 s' ∧ ∃ z, v = some (vi z) ∧ ((-1004) ≤ z ∧ z ≤ 119) ∧ (GiR s0 s' a b d e z ∧ GiY s0 s' a b e (s0 256 0) z)) := by
  have f0 : FL [4107, 4608, 4672, 4736, 4800, 4864, 4928] s0 s0 := FL.rf
  show xe none 155 0 [(0, .ref 256), (1, vi a), (2, vi b), (3, vi d), (4, vi e)] [] s0 0 0 _
  obtain ⟨z561, e_z561⟩ : ∃ z, z = s0 256 10 := ⟨_, rfl⟩
  have g_z561 : (0 : Int) ≤ s0 256 10 ∧ s0 256 10 ≤ 120 := hG0 256 10
  obtain ⟨z562, e_z562⟩ : ∃ z, z = s0 256 6 := ⟨_, rfl⟩
  have g_z562 : (0 : Int) ≤ s0 256 6 ∧ s0 256 6 ≤ 40 := hG0 256 6
  obtain ⟨z563, e_z563⟩ : ∃ z, z = s0 256 1 := ⟨_, rfl⟩
  have g_z563 : (1 : Int) ≤ s0 256 1 ∧ s0 256 1 ≤ 40 := hG0 256 1
  obtain ⟨z564, e_z564⟩ : ∃ z, z = s0 256 0 := ⟨_, rfl⟩
  have g_z564 : (0 : Int) ≤ s0 256 0 ∧ s0 256 0 ≤ 9 := hG0 256 0
  refine x_A k155_0 (fun _ => rfl) ?_
  refine x_A k155_1 (fun _ => rfl) ?_
  refine x_callV k155_2 (y := 151) (n := 1) (w0 := 0) (w1 := 1) (as := [vi a]) (rest := []) (by decide +kernel) (q := 256) (nq := 62) (kq := 15) ⟨by decide, rfl⟩ rfl rfl rfl rfl (xe_mono (C_X11_isPicture_256 s0 hG0 a (by first | exact x_rb b_a rfl rfl | exact ⟨by omega, by omega⟩)) ?_)
  rintro s566 v ⟨h_s566, z565, rfl, hz_z565⟩
  rw [h_s566]
  rcases hz_z565 with ⟨c_z565, e_z565⟩ | ⟨c_z565, e_z565⟩
  · rw [e_z565]
    show xe none 155 5 [(0, .ref 256), (1, vi a), (2, vi b), (3, vi d), (4, vi e)] [vi 1] s0 0 0 _
    refine x_if_eq k155_5 (t := 16) rfl ⟨by decide, by decide⟩ (fun c567 => by exfalso; omega) (fun c567 => ?_)
    refine x_A k155_8 (fun _ => rfl) ?_
    refine x_A k155_9 (fun _ => rfl) ?_
    refine x_callV k155_10 (y := 137) (n := 1) (w0 := 0) (w1 := 1) (as := [vi b]) (rest := []) (by decide +kernel) (q := 256) (nq := 62) (kq := 15) ⟨by decide, rfl⟩ rfl rfl rfl rfl (xe_mono (C_X11_isMark_256 s0 hG0 b (by first | exact x_rb b_b rfl rfl | exact ⟨by omega, by omega⟩)) ?_)
    rintro s569 v ⟨h_s569, z568, rfl, hz_z568⟩
    rw [h_s569]
    rcases hz_z568 with ⟨c_z568, e_z568⟩ | ⟨c_z568, e_z568⟩
    · rw [e_z568]
      show xe none 155 13 [(0, .ref 256), (1, vi a), (2, vi b), (3, vi d), (4, vi e)] [vi 1] s0 0 0 _
      refine x_if_ne k155_13 (t := 20) rfl ⟨by decide, by decide⟩ (fun c570 => ?_) (fun c570 => by exfalso; omega)
      refine x_A k155_20 (fun _ => rfl) ?_
      refine x_callS k155_21 (y := 153) (n := 1) (w0 := 0) (w1 := 1) (as := [vi d]) (rest := []) (by decide +kernel) rfl rfl rfl rfl (xe_mono (C_X11_isHand s0 hG0 d (by first | exact x_rb b_d rfl rfl | exact ⟨by omega, by omega⟩)) ?_)
      rintro s572 v ⟨h_s572, z571, rfl, hz_z571⟩
      rw [h_s572]
      rcases hz_z571 with ⟨c_z571, e_z571⟩ | ⟨c_z571, e_z571⟩
      · rw [e_z571]
        show xe none 155 24 [(0, .ref 256), (1, vi a), (2, vi b), (3, vi d), (4, vi e)] [vi 1] s0 0 0 _
        refine x_if_eq k155_24 (t := 40) rfl ⟨by decide, by decide⟩ (fun c573 => by exfalso; omega) (fun c573 => ?_)
        refine x_A k155_27 (fun _ => rfl) ?_
        refine x_i2l k155_29 (by first | exact x_rb b_e rfl rfl | exact ⟨by omega, by omega⟩) ?_
        refine x_lconst k155_30 (z := 0) (by decide +kernel) ?_
        refine x_ldc2 k155_31 (z := 63) rfl (by decide +kernel) ?_
        refine x_callS k155_34 (y := 136) (n := 3) (w0 := 0) (w1 := 6) (as := [vj e, vj 0, vj 63]) (rest := []) (by decide +kernel) rfl rfl rfl rfl (xe_mono (C_X11_in s0 hG0 e ⟨by omega, by omega⟩ 0 ⟨by omega, by omega⟩ 63 ⟨by omega, by omega⟩) ?_)
        rintro s575 v ⟨h_s575, z574, rfl, hz_z574⟩
        rw [h_s575]
        rcases hz_z574 with ⟨c_z574, e_z574⟩ | ⟨c_z574, e_z574⟩
        · rw [e_z574]
          show xe none 155 37 [(0, .ref 256), (1, vi a), (2, vi b), (3, vi d), (4, vi e)] [vi 1] s0 0 0 _
          refine x_if_ne k155_37 (t := 44) rfl ⟨by decide, by decide⟩ (fun c576 => ?_) (fun c576 => by exfalso; omega)
          refine x_A k155_44 (fun _ => rfl) ?_
          refine x_getI k155_45 (f := 10) rfl (q := 256) (n := 62) (kd := 15) ⟨by decide, rfl⟩ (by decide) rfl ?_
          refine x_rw (e_z561.symm) ?_
          refine x_bipush k155_48 (by decide +kernel) ?_
          refine x_ic_ne k155_50 (t := 57) rfl (by first | exact x_rbe e_z561 g_z561 rfl rfl | exact x_rb g_z561 rfl rfl | exact ⟨by omega, by omega⟩) ⟨by decide, by decide⟩ (fun c577 => ?_) (fun c577 => ?_)
          · skip
            refine x_A k155_57 (fun _ => rfl) ?_
            refine x_getR k155_58 (f := 11) rfl (q := 256) (n := 62) (kd := 15) ⟨by decide, rfl⟩ (q2 := 264) (by decide) rfl ?_
            refine x_A k155_61 (fun _ => rfl) ?_
            refine x_getI k155_62 (f := 10) rfl (q := 256) (n := 62) (kd := 15) ⟨by decide, rfl⟩ (by decide) rfl ?_
            refine x_rw (e_z561.symm) ?_
            refine x_A k155_65 (fun _ => rfl) ?_
            refine x_iast k155_66 (q := 264) (n := 120) ⟨by decide, rfl⟩ (by decide) (by first | exact x_rbel e_z561 g_z561 rfl rfl | exact x_rbl g_z561 rfl rfl | exact ⟨by omega, by omega⟩) ?_
            refine x_nh (fun s578 e_s578 => ?_)
            have hG_s578 : GI s578 := by rw [e_s578]; exact hG0.up (show 0 ≤ a ∧ a ≤ 39 from (by first | exact x_rb b_a rfl rfl | exact ⟨by omega, by omega⟩))
            have f_s578 : FL [4107, 4608, 4672, 4736, 4800, 4864, 4928] s0 s578 := by rw [e_s578]; exact f0.up (show 4608 ∈ [4107, 4608, 4672, 4736, 4800, 4864, 4928] from by decide)
            have q579 : s578 256 10 = z561 := by rw [e_s578, x_up_q (by decide)]; exact e_z561.symm
            have q580 : s578 256 6 = z562 := by rw [e_s578, x_up_q (by decide)]; exact e_z562.symm
            have q581 : s578 256 1 = z563 := by rw [e_s578, x_up_q (by decide)]; exact e_z563.symm
            have q582 : s578 256 0 = z564 := by rw [e_s578, x_up_q (by decide)]; exact e_z564.symm
            have q583 : s578 264 z561.toNat = a := by rw [e_s578]; exact x_up_same
            refine x_A k155_67 (fun _ => rfl) ?_
            refine x_getR k155_68 (f := 12) rfl (q := 256) (n := 62) (kd := 15) ⟨by decide, rfl⟩ (q2 := 265) (by decide) rfl ?_
            refine x_A k155_71 (fun _ => rfl) ?_
            refine x_getI k155_72 (f := 10) rfl (q := 256) (n := 62) (kd := 15) ⟨by decide, rfl⟩ (by decide) rfl ?_
            refine x_rw (q579) ?_
            refine x_A k155_75 (fun _ => rfl) ?_
            refine x_iast k155_76 (q := 265) (n := 120) ⟨by decide, rfl⟩ (by decide) (by first | exact x_rbel e_z561 g_z561 rfl rfl | exact x_rbl g_z561 rfl rfl | exact ⟨by omega, by omega⟩) ?_
            refine x_nh (fun s584 e_s584 => ?_)
            have hG_s584 : GI s584 := by rw [e_s584]; exact hG_s578.up (show 0 ≤ b ∧ b ≤ 39 from (by first | exact x_rb b_b rfl rfl | exact ⟨by omega, by omega⟩))
            have f_s584 : FL [4107, 4608, 4672, 4736, 4800, 4864, 4928] s0 s584 := by rw [e_s584]; exact f_s578.up (show 4672 ∈ [4107, 4608, 4672, 4736, 4800, 4864, 4928] from by decide)
            have q585 : s584 256 10 = z561 := by rw [e_s584, x_up_q (by decide)]; exact q579
            have q586 : s584 256 6 = z562 := by rw [e_s584, x_up_q (by decide)]; exact q580
            have q587 : s584 256 1 = z563 := by rw [e_s584, x_up_q (by decide)]; exact q581
            have q588 : s584 256 0 = z564 := by rw [e_s584, x_up_q (by decide)]; exact q582
            have q589 : s584 264 z561.toNat = a := by rw [e_s584, x_up_q (by first | decide | omega)]; exact q583
            have q590 : s584 265 z561.toNat = b := by rw [e_s584]; exact x_up_same
            refine x_A k155_77 (fun _ => rfl) ?_
            refine x_getR k155_78 (f := 13) rfl (q := 256) (n := 62) (kd := 15) ⟨by decide, rfl⟩ (q2 := 266) (by decide) rfl ?_
            refine x_A k155_81 (fun _ => rfl) ?_
            refine x_getI k155_82 (f := 10) rfl (q := 256) (n := 62) (kd := 15) ⟨by decide, rfl⟩ (by decide) rfl ?_
            refine x_rw (q585) ?_
            refine x_A k155_85 (fun _ => rfl) ?_
            refine x_iast k155_86 (q := 266) (n := 120) ⟨by decide, rfl⟩ (by decide) (by first | exact x_rbel e_z561 g_z561 rfl rfl | exact x_rbl g_z561 rfl rfl | exact ⟨by omega, by omega⟩) ?_
            refine x_nh (fun s591 e_s591 => ?_)
            have hG_s591 : GI s591 := by rw [e_s591]; exact hG_s584.up (show 0 ≤ d ∧ d ≤ 7 from (by first | exact x_rb b_d rfl rfl | exact ⟨by omega, by omega⟩))
            have f_s591 : FL [4107, 4608, 4672, 4736, 4800, 4864, 4928] s0 s591 := by rw [e_s591]; exact f_s584.up (show 4736 ∈ [4107, 4608, 4672, 4736, 4800, 4864, 4928] from by decide)
            have q592 : s591 256 10 = z561 := by rw [e_s591, x_up_q (by decide)]; exact q585
            have q593 : s591 256 6 = z562 := by rw [e_s591, x_up_q (by decide)]; exact q586
            have q594 : s591 256 1 = z563 := by rw [e_s591, x_up_q (by decide)]; exact q587
            have q595 : s591 256 0 = z564 := by rw [e_s591, x_up_q (by decide)]; exact q588
            have q596 : s591 264 z561.toNat = a := by rw [e_s591, x_up_q (by first | decide | omega)]; exact q589
            have q597 : s591 265 z561.toNat = b := by rw [e_s591, x_up_q (by first | decide | omega)]; exact q590
            have q598 : s591 266 z561.toNat = d := by rw [e_s591]; exact x_up_same
            refine x_A k155_87 (fun _ => rfl) ?_
            refine x_getR k155_88 (f := 14) rfl (q := 256) (n := 62) (kd := 15) ⟨by decide, rfl⟩ (q2 := 267) (by decide) rfl ?_
            refine x_A k155_91 (fun _ => rfl) ?_
            refine x_getI k155_92 (f := 10) rfl (q := 256) (n := 62) (kd := 15) ⟨by decide, rfl⟩ (by decide) rfl ?_
            refine x_rw (q592) ?_
            refine x_A k155_95 (fun _ => rfl) ?_
            refine x_iast k155_97 (q := 267) (n := 120) ⟨by decide, rfl⟩ (by decide) (by first | exact x_rbel e_z561 g_z561 rfl rfl | exact x_rbl g_z561 rfl rfl | exact ⟨by omega, by omega⟩) ?_
            refine x_nh (fun s599 e_s599 => ?_)
            have hG_s599 : GI s599 := by rw [e_s599]; exact hG_s591.up (show 0 ≤ e ∧ e ≤ 63 from (by first | exact x_rb b_e rfl rfl | exact ⟨by omega, by omega⟩))
            have f_s599 : FL [4107, 4608, 4672, 4736, 4800, 4864, 4928] s0 s599 := by rw [e_s599]; exact f_s591.up (show 4800 ∈ [4107, 4608, 4672, 4736, 4800, 4864, 4928] from by decide)
            have q600 : s599 256 10 = z561 := by rw [e_s599, x_up_q (by decide)]; exact q592
            have q601 : s599 256 6 = z562 := by rw [e_s599, x_up_q (by decide)]; exact q593
            have q602 : s599 256 1 = z563 := by rw [e_s599, x_up_q (by decide)]; exact q594
            have q603 : s599 256 0 = z564 := by rw [e_s599, x_up_q (by decide)]; exact q595
            have q604 : s599 264 z561.toNat = a := by rw [e_s599, x_up_q (by first | decide | omega)]; exact q596
            have q605 : s599 265 z561.toNat = b := by rw [e_s599, x_up_q (by first | decide | omega)]; exact q597
            have q606 : s599 266 z561.toNat = d := by rw [e_s599, x_up_q (by first | decide | omega)]; exact q598
            have q607 : s599 267 z561.toNat = e := by rw [e_s599]; exact x_up_same
            refine x_A k155_98 (fun _ => rfl) ?_
            refine x_getR k155_99 (f := 15) rfl (q := 256) (n := 62) (kd := 15) ⟨by decide, rfl⟩ (q2 := 268) (by decide) rfl ?_
            refine x_A k155_102 (fun _ => rfl) ?_
            refine x_getI k155_103 (f := 10) rfl (q := 256) (n := 62) (kd := 15) ⟨by decide, rfl⟩ (by decide) rfl ?_
            refine x_rw (q600) ?_
            refine x_A k155_106 (fun _ => rfl) ?_
            refine x_getI k155_107 (f := 0) rfl (q := 256) (n := 62) (kd := 15) ⟨by decide, rfl⟩ (by decide) rfl ?_
            refine x_rw (q603) ?_
            refine x_iast k155_110 (q := 268) (n := 120) ⟨by decide, rfl⟩ (by decide) (by first | exact x_rbel e_z561 g_z561 rfl rfl | exact x_rbl g_z561 rfl rfl | exact ⟨by omega, by omega⟩) ?_
            refine x_nh (fun s608 e_s608 => ?_)
            have hG_s608 : GI s608 := by rw [e_s608]; exact hG_s599.up (show 0 ≤ z564 ∧ z564 ≤ 9 from (by first | exact x_rbe e_z564 g_z564 rfl rfl | exact x_rb g_z564 rfl rfl | exact ⟨by omega, by omega⟩))
            have f_s608 : FL [4107, 4608, 4672, 4736, 4800, 4864, 4928] s0 s608 := by rw [e_s608]; exact f_s599.up (show 4864 ∈ [4107, 4608, 4672, 4736, 4800, 4864, 4928] from by decide)
            have q609 : s608 256 10 = z561 := by rw [e_s608, x_up_q (by decide)]; exact q600
            have q610 : s608 256 6 = z562 := by rw [e_s608, x_up_q (by decide)]; exact q601
            have q611 : s608 256 1 = z563 := by rw [e_s608, x_up_q (by decide)]; exact q602
            have q612 : s608 256 0 = z564 := by rw [e_s608, x_up_q (by decide)]; exact q603
            have q613 : s608 264 z561.toNat = a := by rw [e_s608, x_up_q (by first | decide | omega)]; exact q604
            have q614 : s608 265 z561.toNat = b := by rw [e_s608, x_up_q (by first | decide | omega)]; exact q605
            have q615 : s608 266 z561.toNat = d := by rw [e_s608, x_up_q (by first | decide | omega)]; exact q606
            have q616 : s608 267 z561.toNat = e := by rw [e_s608, x_up_q (by first | decide | omega)]; exact q607
            have q617 : s608 268 z561.toNat = z564 := by rw [e_s608]; exact x_up_same
            refine x_A k155_111 (fun _ => rfl) ?_
            refine x_istore k155_112 (ls' := [(5, vi 0), (0, .ref 256), (1, vi a), (2, vi b), (3, vi d), (4, vi e)]) (by decide) rfl ?_
            refine x_ls (l := [(0, .ref 256), (1, vi a), (2, vi b), (3, vi d), (4, vi e), (5, vi 0)]) (show ([0, 1, 2, 3, 4, 5] : List Nat).Nodup from by decide) ⟨rfl, rfl, rfl, rfl, rfl, rfl, trivial⟩ ?_
            exact L_V_X11_give_256_114 s0 a b_a b b_b d b_d e b_e  (((8 - 0) + 1 : Int)).toNat s608 a b d e 0 z561 hG_s608 f_s608 (by first | exact x_rb b_a rfl rfl | exact ⟨by omega, by omega⟩) (by first | exact x_rb b_b rfl rfl | exact ⟨by omega, by omega⟩) (by first | exact x_rb b_d rfl rfl | exact ⟨by omega, by omega⟩) (by first | exact x_rb b_e rfl rfl | exact ⟨by omega, by omega⟩) ⟨by decide, by decide⟩ (by first | exact x_rbe e_z561 g_z561 rfl rfl | exact x_rb g_z561 rfl rfl | exact ⟨by omega, by omega⟩) (by omega) (by omega) (by omega) (by omega) (fun j => by rw [e_s608, x_up_q (by decide), e_s599, x_up_q (by decide), e_s591, x_up_at, e_s584, x_up_q (by decide), e_s578, x_up_q (by decide), show z561 = s0 256 10 by omega]) (fun j => by rw [if_neg (by omega), e_s608, x_up_q (by decide), e_s599, x_up_q (by decide), e_s591, x_up_q (by decide), e_s584, x_up_q (by decide), e_s578, x_up_q (by decide)]) (fun j => by rw [e_s608, x_up_q (by decide), e_s599, x_up_q (by decide), e_s591, x_up_q (by decide), e_s584, x_up_q (by decide), e_s578, x_up_at, show z561 = s0 256 10 by omega]) (fun j => by rw [e_s608, x_up_q (by decide), e_s599, x_up_q (by decide), e_s591, x_up_q (by decide), e_s584, x_up_at, e_s578, x_up_q (by decide), show z561 = s0 256 10 by omega]) (fun j => by rw [e_s608, x_up_q (by decide), e_s599, x_up_at, e_s591, x_up_q (by decide), e_s584, x_up_q (by decide), e_s578, x_up_q (by decide), show z561 = s0 256 10 by omega]) (fun j => by rw [e_s608, x_up_at, e_s599, x_up_q (by decide), e_s591, x_up_q (by decide), e_s584, x_up_q (by decide), e_s578, x_up_q (by decide), show z561 = s0 256 10 by omega, show z564 = s0 256 0 by omega]) (q609).symm  (by omega)
          · skip
            refine x_sipush k155_53 (by decide +kernel) ?_
            exact x_iret k155_56 rfl ⟨hG0, f0, (-1004), rfl, ⟨by decide, by decide⟩, ⟨(by unfold GiR; exact Or.inr (Or.inr (Or.inl ⟨by omega, by omega, by omega, rfl, rfl, rfl, rfl⟩))), fun _ => ⟨rfl, rfl, rfl, rfl⟩, fun q => by exfalso; omega⟩⟩
        · rw [e_z574]
          show xe none 155 37 [(0, .ref 256), (1, vi a), (2, vi b), (3, vi d), (4, vi e)] [vi 0] s0 0 0 _
          refine x_if_ne k155_37 (t := 44) rfl ⟨by decide, by decide⟩ (fun c618 => by exfalso; omega) (fun c618 => ?_)
          refine x_sipush k155_40 (by decide +kernel) ?_
          exact x_iret k155_43 rfl ⟨hG0, f0, (-1002), rfl, ⟨by decide, by decide⟩, ⟨(by unfold GiR; exact Or.inr (Or.inl ⟨by omega, by omega, rfl, rfl, rfl, rfl⟩)), fun _ => ⟨rfl, rfl, rfl, rfl⟩, fun q => by exfalso; omega⟩⟩
      · rw [e_z571]
        show xe none 155 24 [(0, .ref 256), (1, vi a), (2, vi b), (3, vi d), (4, vi e)] [vi 0] s0 0 0 _
        refine x_if_eq k155_24 (t := 40) rfl ⟨by decide, by decide⟩ (fun c619 => ?_) (fun c619 => by exfalso; omega)
        refine x_sipush k155_40 (by decide +kernel) ?_
        exact x_iret k155_43 rfl ⟨hG0, f0, (-1002), rfl, ⟨by decide, by decide⟩, ⟨(by unfold GiR; exact Or.inr (Or.inl ⟨by omega, by omega, rfl, rfl, rfl, rfl⟩)), fun _ => ⟨rfl, rfl, rfl, rfl⟩, fun q => by exfalso; omega⟩⟩
    · rw [e_z568]
      show xe none 155 13 [(0, .ref 256), (1, vi a), (2, vi b), (3, vi d), (4, vi e)] [vi 0] s0 0 0 _
      refine x_if_ne k155_13 (t := 20) rfl ⟨by decide, by decide⟩ (fun c620 => by exfalso; omega) (fun c620 => ?_)
      refine x_sipush k155_16 (by decide +kernel) ?_
      exact x_iret k155_19 rfl ⟨hG0, f0, (-1001), rfl, ⟨by decide, by decide⟩, ⟨(by unfold GiR; exact Or.inl ⟨by omega, rfl, rfl, rfl, rfl⟩), fun _ => ⟨rfl, rfl, rfl, rfl⟩, fun q => by exfalso; omega⟩⟩
  · rw [e_z565]
    show xe none 155 5 [(0, .ref 256), (1, vi a), (2, vi b), (3, vi d), (4, vi e)] [vi 0] s0 0 0 _
    refine x_if_eq k155_5 (t := 16) rfl ⟨by decide, by decide⟩ (fun c621 => ?_) (fun c621 => by exfalso; omega)
    refine x_sipush k155_16 (by decide +kernel) ?_
    exact x_iret k155_19 rfl ⟨hG0, f0, (-1001), rfl, ⟨by decide, by decide⟩, ⟨(by unfold GiR; exact Or.inl ⟨by omega, rfl, rfl, rfl, rfl⟩), fun _ => ⟨rfl, rfl, rfl, rfl⟩, fun q => by exfalso; omega⟩⟩
set_option maxHeartbeats 8000000 in
theorem V_X10_mark_0 (s0 : xS) (hG0 : GI s0) (a : Int) (b_a : (-2147483648) ≤ a ∧ a ≤ 2147483647) (p_1_4 : 1 ≤ s0 1 4 ∧ s0 1 4 ≤ 40) (p_0_10 : 0 ≤ s0 0 10 ∧ s0 0 10 ≤ 9) (i0_VCj : VCj s0) (i0_VCl : VCl s0) : xe none 92 0 (lv_args 0 [.ref 0, vi a]) [] s0 0 0 (fun s' v => GI s' ∧ FL [69, 128, 384, 3276, 3277] s0 s' ∧ ∃ z, v = some (vi z) ∧ ((-1004) ≤ z ∧ z ≤ 39) ∧ (MkC s0 s' a z ∧ MkP s0 s' a z) ∧ VCj s' ∧ VCl s') := by
  have f0 : FL [69, 128, 384, 3276, 3277] s0 s0 := FL.rf
  show xe none 92 0 [(0, .ref 0), (1, vi a)] [] s0 0 0 _
  obtain ⟨z1, e_z1⟩ : ∃ z, z = s0 1 4 := ⟨_, rfl⟩
  have g_z1 : (1 : Int) ≤ s0 1 4 ∧ s0 1 4 ≤ 40 := hG0 1 4
  obtain ⟨z2, e_z2⟩ : ∃ z, z = s0 0 10 := ⟨_, rfl⟩
  have g_z2 : (0 : Int) ≤ s0 0 10 ∧ s0 0 10 ≤ 9 := hG0 0 10
  refine x_A k92_0 (fun _ => rfl) ?_
  refine x_getR k92_1 (f := 0) rfl (q := 0) (n := 12) (kd := 3) ⟨by decide, rfl⟩ (q2 := 1) (by decide) rfl ?_
  refine x_A k92_4 (fun _ => rfl) ?_
  refine x_callV k92_5 (y := 59) (n := 1) (w0 := 0) (w1 := 1) (as := [vi a]) (rest := []) (by decide +kernel) (q := 1) (nq := 5) (kq := 4) ⟨by decide, rfl⟩ rfl rfl rfl rfl (xe_mono (C_X7_has_1 s0 hG0 a (by first | exact x_rb b_a rfl rfl | exact ⟨by omega, by omega⟩)) ?_)
  rintro s4 v ⟨h_s4, z3, rfl, hz_z3⟩
  rw [h_s4]
  rcases hz_z3 with ⟨c_z3, e_z3⟩ | ⟨c_z3, e_z3⟩
  · rw [e_z3]
    show xe none 92 8 [(0, .ref 0), (1, vi a)] [vi 1] s0 0 0 _
    refine x_if_ne k92_8 (t := 15) rfl ⟨by decide, by decide⟩ (fun c5 => ?_) (fun c5 => by exfalso; omega)
    refine x_A k92_15 (fun _ => rfl) ?_
    refine x_getR k92_16 (f := 0) rfl (q := 0) (n := 12) (kd := 3) ⟨by decide, rfl⟩ (q2 := 1) (by decide) rfl ?_
    refine x_A k92_19 (fun _ => rfl) ?_
    refine x_A k92_20 (fun _ => rfl) ?_
    refine x_getI k92_21 (f := 10) rfl (q := 0) (n := 12) (kd := 3) ⟨by decide, rfl⟩ (by decide) rfl ?_
    refine x_rw (e_z2.symm) ?_
    refine x_callV k92_24 (y := 64) (n := 2) (w0 := 0) (w1 := 2) (as := [vi a, vi z2]) (rest := []) (by decide +kernel) (q := 1) (nq := 5) (kq := 4) ⟨by decide, rfl⟩ rfl rfl rfl rfl (xe_mono (E_X7_isThere_1 s0 hG0 a (by first | exact x_rb b_a rfl rfl | exact ⟨by omega, by omega⟩) z2 (by first | exact x_rbe e_z2 g_z2 rfl rfl | exact x_rb g_z2 rfl rfl | exact ⟨by omega, by omega⟩)) ?_)
    rintro s7 v ⟨h_s7, z6, rfl, hz_z6⟩
    rw [h_s7]
    rcases hz_z6 with ⟨c_z6, e_z6, m_z6⟩ | ⟨e_z6, m_z6⟩
    · rw [e_z6]
      show xe none 92 27 [(0, .ref 0), (1, vi a)] [vi 1] s0 0 0 _
      refine x_if_ne k92_27 (t := 34) rfl ⟨by decide, by decide⟩ (fun c8 => ?_) (fun c8 => by exfalso; omega)
      refine x_A k92_34 (fun _ => rfl) ?_
      refine x_getR k92_35 (f := 9) rfl (q := 0) (n := 12) (kd := 3) ⟨by decide, rfl⟩ (q2 := 243) (by decide) rfl ?_
      refine x_callV k92_38 (y := 73) (n := 0) (w0 := 0) (w1 := 0) (as := []) (rest := []) (by decide +kernel) (q := 243) (nq := 13) (kq := 13) ⟨by decide, rfl⟩ rfl rfl rfl rfl (xe_mono (E_X8_forget_243 s0 hG0) ?_)
      rintro s10 v ⟨hG_s10, t_s10, rfl, xp_z9⟩
      have f_s10 : FL [69, 128, 384, 3276, 3277] s0 s10 := f0.tr t_s10 (by decide)
      have q11 : s10 1 4 = z1 := (t_s10 1 4 (show 69 ∉ [3276, 3277] from by decide)).trans e_z1.symm
      have q12 : s10 0 10 = z2 := (t_s10 0 10 (show 11 ∉ [3276, 3277] from by decide)).trans e_z2.symm
      obtain ⟨z13, e_z13⟩ : ∃ z, z = s10 243 11 := ⟨_, rfl⟩
      have g_z13 : (0 : Int) ≤ s10 243 11 ∧ s10 243 11 ≤ 1 := hG_s10 243 11
      obtain ⟨z14, e_z14⟩ : ∃ z, z = s10 243 12 := ⟨_, rfl⟩
      have g_z14 : (-1) ≤ s10 243 12 ∧ s10 243 12 ≤ 9 := hG_s10 243 12
      show xe none 92 41 [(0, .ref 0), (1, vi a)] [] s10 0 0 _
      refine x_A k92_41 (fun _ => rfl) ?_
      refine x_getR k92_42 (f := 0) rfl (q := 0) (n := 12) (kd := 3) ⟨by decide, rfl⟩ (q2 := 1) (by decide) rfl ?_
      refine x_A k92_45 (fun _ => rfl) ?_
      refine x_A k92_46 (fun _ => rfl) ?_
      refine x_getI k92_47 (f := 10) rfl (q := 0) (n := 12) (kd := 3) ⟨by decide, rfl⟩ (by decide) rfl ?_
      refine x_rw (q12) ?_
      refine x_callV k92_50 (y := 60) (n := 2) (w0 := 0) (w1 := 2) (as := [vi a, vi z2]) (rest := []) (by decide +kernel) (q := 1) (nq := 5) (kq := 4) ⟨by decide, rfl⟩ rfl rfl rfl rfl (xe_mono (F_X7_add_1 s10 hG_s10 a (by first | exact x_rb b_a rfl rfl | exact ⟨by omega, by omega⟩) z2 (by first | exact x_rbe e_z2 g_z2 rfl rfl | exact x_rb g_z2 rfl rfl | exact ⟨by omega, by omega⟩)) ?_)
      rintro s16 v ⟨hG_s16, t_s16, z15, rfl, g_z15, xp_z15⟩
      have f_s16 : FL [69, 128, 384, 3276, 3277] s0 s16 := f_s10.tr t_s16 (by decide)
      have q17 : s16 0 10 = z2 := (t_s16 0 10 (show 11 ∉ [69, 128, 384] from by decide)).trans q12
      have q18 : s16 243 11 = z13 := (t_s16 243 11 (show 3276 ∉ [69, 128, 384] from by decide)).trans e_z13.symm
      have q19 : s16 243 12 = z14 := (t_s16 243 12 (show 3277 ∉ [69, 128, 384] from by decide)).trans e_z14.symm
      obtain ⟨z20, e_z20⟩ : ∃ z, z = s16 1 4 := ⟨_, rfl⟩
      have g_z20 : (1 : Int) ≤ s16 1 4 ∧ s16 1 4 ≤ 40 := hG_s16 1 4
      show xe none 92 53 [(0, .ref 0), (1, vi a)] [vi z15] s16 0 0 _
      have F2 : s10 2 = s0 2 := funext fun i => t_s10 2 i (show 128 ∉ _ from by decide)
      have FR := rows40 t_s10 (by decide)
      have VCj_r : VCj s16 := (VCj.no (show s16 243 11 = 0 by omega))
      have VCl_r : VCl s16 := (VCl.no (show s16 243 12 = -1 by omega))
      exact x_iret k92_53 rfl ⟨hG_s16, f_s16, z15, rfl, (by first | exact x_rbe e_z15 g_z15 rfl rfl | exact x_rb g_z15 rfl rfl | exact ⟨by omega, by omega⟩), ⟨(by unfold MkC; exact xp_z15.elim (fun ⟨u1, u2, u3, u4, u5⟩ => Or.inr (Or.inr (Or.inl ⟨by omega, by omega, by omega, by omega, by omega, u4.trans F2⟩))) (fun ⟨u1, u2, u3, u4, u5⟩ => Or.inr (Or.inr (Or.inr ⟨by omega, by omega, by omega, by omega, by omega, fun j => by rw [u4, show s10 1 4 = s0 1 4 by omega, show z2 = s0 0 10 by omega, F2]⟩)))), xp_z15.elim (fun ⟨u1, u2, u3, u4, u5⟩ => ⟨fun _ r j h1 h2 => (u5 r j h1 h2).trans (FR r j h1 h2), fun w => by exfalso; omega⟩) (fun ⟨u1, u2, u3, u4, u5⟩ => ⟨fun w => by exfalso; omega, fun _ r j h1 h2 => by rw [u5 r j h1 h2, FR r j h1 h2, ← u2, show z2 = s0 0 10 by omega]⟩)⟩, VCj_r, VCl_r⟩
    · rw [e_z6]
      show xe none 92 27 [(0, .ref 0), (1, vi a)] [vi 0] s0 0 0 _
      refine x_if_ne k92_27 (t := 34) rfl ⟨by decide, by decide⟩ (fun c21 => by exfalso; omega) (fun c21 => ?_)
      refine x_sipush k92_30 (by decide +kernel) ?_
      exact x_iret k92_33 rfl ⟨hG0, f0, (-1003), rfl, ⟨by decide, by decide⟩, ⟨(by unfold MkC; exact Or.inr (Or.inl ⟨by omega, by omega, rfl, rfl, rfl⟩)), ⟨fun _ _ _ _ _ => rfl, fun w => absurd w (by decide)⟩⟩, i0_VCj, i0_VCl⟩
  · rw [e_z3]
    show xe none 92 8 [(0, .ref 0), (1, vi a)] [vi 0] s0 0 0 _
    refine x_if_ne k92_8 (t := 15) rfl ⟨by decide, by decide⟩ (fun c22 => by exfalso; omega) (fun c22 => ?_)
    refine x_sipush k92_11 (by decide +kernel) ?_
    exact x_iret k92_14 rfl ⟨hG0, f0, (-1001), rfl, ⟨by decide, by decide⟩, ⟨(by unfold MkC; exact Or.inl ⟨by omega, rfl, rfl, rfl⟩), ⟨fun _ _ _ _ _ => rfl, fun w => absurd w (by decide)⟩⟩, i0_VCj, i0_VCl⟩
set_option maxHeartbeats 8000000 in
theorem V_X10_move_0 (s0 : xS) (hG0 : GI s0) (a : Int) (b_a : (-2147483648) ≤ a ∧ a ≤ 2147483647) (b : Int) (b_b : (-2147483648) ≤ b ∧ b ≤ 2147483647) (p_1_4 : 1 ≤ s0 1 4 ∧ s0 1 4 ≤ 40) (p_0_10 : 0 ≤ s0 0 10 ∧ s0 0 10 ≤ 9) (i0_VCj : VCj s0) (i0_VCl : VCl s0) : xe none 93 0 (lv_args 0 [.ref 0, vi a, vi b]) [] s0 0 0 (fun s' v => GI s' ∧ FL [384, 3276, 3277] s0 s' ∧ ∃ z, v = some (vi z) ∧ ((-1004) ≤ z ∧ z ≤ 39) ∧ (MvC s0 s' a b z) ∧ VCj s' ∧ VCl s') := by
  have f0 : FL [384, 3276, 3277] s0 s0 := FL.rf
  show xe none 93 0 [(0, .ref 0), (1, vi a), (2, vi b)] [] s0 0 0 _
  obtain ⟨z1, e_z1⟩ : ∃ z, z = s0 1 4 := ⟨_, rfl⟩
  have g_z1 : (1 : Int) ≤ s0 1 4 ∧ s0 1 4 ≤ 40 := hG0 1 4
  obtain ⟨z2, e_z2⟩ : ∃ z, z = s0 0 10 := ⟨_, rfl⟩
  have g_z2 : (0 : Int) ≤ s0 0 10 ∧ s0 0 10 ≤ 9 := hG0 0 10
  refine x_A k93_0 (fun _ => rfl) ?_
  refine x_getR k93_1 (f := 0) rfl (q := 0) (n := 12) (kd := 3) ⟨by decide, rfl⟩ (q2 := 1) (by decide) rfl ?_
  refine x_A k93_4 (fun _ => rfl) ?_
  refine x_callV k93_5 (y := 59) (n := 1) (w0 := 0) (w1 := 1) (as := [vi a]) (rest := []) (by decide +kernel) (q := 1) (nq := 5) (kq := 4) ⟨by decide, rfl⟩ rfl rfl rfl rfl (xe_mono (C_X7_has_1 s0 hG0 a (by first | exact x_rb b_a rfl rfl | exact ⟨by omega, by omega⟩)) ?_)
  rintro s4 v ⟨h_s4, z3, rfl, hz_z3⟩
  rw [h_s4]
  rcases hz_z3 with ⟨c_z3, e_z3⟩ | ⟨c_z3, e_z3⟩
  · rw [e_z3]
    show xe none 93 8 [(0, .ref 0), (1, vi a), (2, vi b)] [vi 1] s0 0 0 _
    refine x_if_eq k93_8 (t := 22) rfl ⟨by decide, by decide⟩ (fun c5 => by exfalso; omega) (fun c5 => ?_)
    refine x_A k93_11 (fun _ => rfl) ?_
    refine x_getR k93_12 (f := 0) rfl (q := 0) (n := 12) (kd := 3) ⟨by decide, rfl⟩ (q2 := 1) (by decide) rfl ?_
    refine x_A k93_15 (fun _ => rfl) ?_
    refine x_callV k93_16 (y := 59) (n := 1) (w0 := 0) (w1 := 1) (as := [vi b]) (rest := []) (by decide +kernel) (q := 1) (nq := 5) (kq := 4) ⟨by decide, rfl⟩ rfl rfl rfl rfl (xe_mono (C_X7_has_1 s0 hG0 b (by first | exact x_rb b_b rfl rfl | exact ⟨by omega, by omega⟩)) ?_)
    rintro s7 v ⟨h_s7, z6, rfl, hz_z6⟩
    rw [h_s7]
    rcases hz_z6 with ⟨c_z6, e_z6⟩ | ⟨c_z6, e_z6⟩
    · rw [e_z6]
      show xe none 93 19 [(0, .ref 0), (1, vi a), (2, vi b)] [vi 1] s0 0 0 _
      refine x_if_ne k93_19 (t := 26) rfl ⟨by decide, by decide⟩ (fun c8 => ?_) (fun c8 => by exfalso; omega)
      refine x_A k93_26 (fun _ => rfl) ?_
      refine x_if_eq k93_27 (t := 60) rfl (by first | exact x_rb b_a rfl rfl | exact ⟨by omega, by omega⟩) (fun c9 => ?_) (fun c9 => ?_)
      · skip
        refine x_sipush k93_60 (by decide +kernel) ?_
        exact x_iret k93_63 rfl ⟨hG0, f0, (-1003), rfl, ⟨by decide, by decide⟩, (by unfold MvC; exact Or.inr (Or.inl ⟨by omega, fun w => by obtain ⟨w1, -⟩ := w; omega, rfl, fun _ _ _ _ => rfl⟩)), i0_VCj, i0_VCl⟩
      · skip
        refine x_A k93_30 (fun _ => rfl) ?_
        refine x_getR k93_31 (f := 0) rfl (q := 0) (n := 12) (kd := 3) ⟨by decide, rfl⟩ (q2 := 1) (by decide) rfl ?_
        refine x_A k93_34 (fun _ => rfl) ?_
        refine x_A k93_35 (fun _ => rfl) ?_
        refine x_getI k93_36 (f := 10) rfl (q := 0) (n := 12) (kd := 3) ⟨by decide, rfl⟩ (by decide) rfl ?_
        refine x_rw (e_z2.symm) ?_
        refine x_callV k93_39 (y := 64) (n := 2) (w0 := 0) (w1 := 2) (as := [vi a, vi z2]) (rest := []) (by decide +kernel) (q := 1) (nq := 5) (kq := 4) ⟨by decide, rfl⟩ rfl rfl rfl rfl (xe_mono (E_X7_isThere_1 s0 hG0 a (by first | exact x_rb b_a rfl rfl | exact ⟨by omega, by omega⟩) z2 (by first | exact x_rbe e_z2 g_z2 rfl rfl | exact x_rb g_z2 rfl rfl | exact ⟨by omega, by omega⟩)) ?_)
        rintro s11 v ⟨h_s11, z10, rfl, hz_z10⟩
        rw [h_s11]
        rcases hz_z10 with ⟨c_z10, e_z10, m_z10⟩ | ⟨e_z10, m_z10⟩
        · rw [e_z10]
          show xe none 93 42 [(0, .ref 0), (1, vi a), (2, vi b)] [vi 1] s0 0 0 _
          refine x_if_eq k93_42 (t := 60) rfl ⟨by decide, by decide⟩ (fun c12 => by exfalso; omega) (fun c12 => ?_)
          refine x_A k93_45 (fun _ => rfl) ?_
          refine x_getR k93_46 (f := 0) rfl (q := 0) (n := 12) (kd := 3) ⟨by decide, rfl⟩ (q2 := 1) (by decide) rfl ?_
          refine x_A k93_49 (fun _ => rfl) ?_
          refine x_A k93_50 (fun _ => rfl) ?_
          refine x_getI k93_51 (f := 10) rfl (q := 0) (n := 12) (kd := 3) ⟨by decide, rfl⟩ (by decide) rfl ?_
          refine x_rw (e_z2.symm) ?_
          refine x_callV k93_54 (y := 64) (n := 2) (w0 := 0) (w1 := 2) (as := [vi b, vi z2]) (rest := []) (by decide +kernel) (q := 1) (nq := 5) (kq := 4) ⟨by decide, rfl⟩ rfl rfl rfl rfl (xe_mono (E_X7_isThere_1 s0 hG0 b (by first | exact x_rb b_b rfl rfl | exact ⟨by omega, by omega⟩) z2 (by first | exact x_rbe e_z2 g_z2 rfl rfl | exact x_rb g_z2 rfl rfl | exact ⟨by omega, by omega⟩)) ?_)
          rintro s14 v ⟨h_s14, z13, rfl, hz_z13⟩
          rw [h_s14]
          rcases hz_z13 with ⟨c_z13, e_z13, m_z13⟩ | ⟨e_z13, m_z13⟩
          · rw [e_z13]
            show xe none 93 57 [(0, .ref 0), (1, vi a), (2, vi b)] [vi 1] s0 0 0 _
            refine x_if_ne k93_57 (t := 64) rfl ⟨by decide, by decide⟩ (fun c15 => ?_) (fun c15 => by exfalso; omega)
            refine x_A k93_64 (fun _ => rfl) ?_
            refine x_getR k93_65 (f := 0) rfl (q := 0) (n := 12) (kd := 3) ⟨by decide, rfl⟩ (q2 := 1) (by decide) rfl ?_
            refine x_A k93_68 (fun _ => rfl) ?_
            refine x_A k93_69 (fun _ => rfl) ?_
            refine x_A k93_70 (fun _ => rfl) ?_
            refine x_getI k93_71 (f := 10) rfl (q := 0) (n := 12) (kd := 3) ⟨by decide, rfl⟩ (by decide) rfl ?_
            refine x_rw (e_z2.symm) ?_
            refine x_callV k93_74 (y := 66) (n := 3) (w0 := 0) (w1 := 3) (as := [vi b, vi a, vi z2]) (rest := []) (by decide +kernel) (q := 1) (nq := 5) (kq := 4) ⟨by decide, rfl⟩ rfl rfl rfl rfl (xe_mono (E_X7_isBelow_1 s0 hG0 b (by first | exact x_rb b_b rfl rfl | exact ⟨by omega, by omega⟩) a (by first | exact x_rb b_a rfl rfl | exact ⟨by omega, by omega⟩) z2 (by first | exact x_rbe e_z2 g_z2 rfl rfl | exact x_rb g_z2 rfl rfl | exact ⟨by omega, by omega⟩)) ?_)
            rintro s17 v ⟨-, t_s17, z16, rfl, g_z16, xp_z16⟩
            rw [t_s17.nil]
            try rw [t_s17.nil] at xp_z16
            show xe none 93 77 [(0, .ref 0), (1, vi a), (2, vi b)] [vi z16] s0 0 0 _
            refine x_if_eq k93_77 (t := 84) rfl (by first | exact x_rbe e_z16 g_z16 rfl rfl | exact x_rb g_z16 rfl rfl | exact ⟨by omega, by omega⟩) (fun c18 => ?_) (fun c18 => ?_)
            · skip
              refine x_A k93_84 (fun _ => rfl) ?_
              refine x_getR k93_85 (f := 9) rfl (q := 0) (n := 12) (kd := 3) ⟨by decide, rfl⟩ (q2 := 243) (by decide) rfl ?_
              refine x_callV k93_88 (y := 73) (n := 0) (w0 := 0) (w1 := 0) (as := []) (rest := []) (by decide +kernel) (q := 243) (nq := 13) (kq := 13) ⟨by decide, rfl⟩ rfl rfl rfl rfl (xe_mono (E_X8_forget_243 s0 hG0) ?_)
              rintro s20 v ⟨hG_s20, t_s20, rfl, xp_z19⟩
              have f_s20 : FL [384, 3276, 3277] s0 s20 := f0.tr t_s20 (by decide)
              have q21 : s20 1 4 = z1 := (t_s20 1 4 (show 69 ∉ [3276, 3277] from by decide)).trans e_z1.symm
              have q22 : s20 0 10 = z2 := (t_s20 0 10 (show 11 ∉ [3276, 3277] from by decide)).trans e_z2.symm
              obtain ⟨z23, e_z23⟩ : ∃ z, z = s20 243 11 := ⟨_, rfl⟩
              have g_z23 : (0 : Int) ≤ s20 243 11 ∧ s20 243 11 ≤ 1 := hG_s20 243 11
              obtain ⟨z24, e_z24⟩ : ∃ z, z = s20 243 12 := ⟨_, rfl⟩
              have g_z24 : (-1) ≤ s20 243 12 ∧ s20 243 12 ≤ 9 := hG_s20 243 12
              show xe none 93 91 [(0, .ref 0), (1, vi a), (2, vi b)] [] s20 0 0 _
              have FR := rows40 t_s20 (by decide)
              refine x_A k93_91 (fun _ => rfl) ?_
              refine x_getR k93_92 (f := 0) rfl (q := 0) (n := 12) (kd := 3) ⟨by decide, rfl⟩ (q2 := 1) (by decide) rfl ?_
              refine x_A k93_95 (fun _ => rfl) ?_
              refine x_A k93_96 (fun _ => rfl) ?_
              refine x_getI k93_97 (f := 10) rfl (q := 0) (n := 12) (kd := 3) ⟨by decide, rfl⟩ (by decide) rfl ?_
              refine x_rw (q22) ?_
              refine x_callV k93_100 (y := 62) (n := 2) (w0 := 0) (w1 := 2) (as := [vi a, vi z2]) (rest := []) (by decide +kernel) (q := 1) (nq := 5) (kq := 4) ⟨by decide, rfl⟩ rfl rfl rfl rfl (xe_mono (E_X7_parentIn_1 s20 hG_s20 a (by first | exact x_rb b_a rfl rfl | exact ⟨by omega, by omega⟩) z2 (by first | exact x_rbe e_z2 g_z2 rfl rfl | exact x_rb g_z2 rfl rfl | exact ⟨by omega, by omega⟩)) ?_)
              rintro s26 v ⟨-, t_s26, z25, rfl, g_z25, xp_z25⟩
              rw [t_s26.nil]
              try rw [t_s26.nil] at xp_z25
              show xe none 93 103 [(0, .ref 0), (1, vi a), (2, vi b)] [vi z25] s20 0 0 _
              refine x_istore_n k93_103 (ls' := [(3, vi z25), (0, .ref 0), (1, vi a), (2, vi b)]) (by decide) rfl ?_
              refine x_A k93_104 (fun _ => rfl) ?_
              refine x_getR k93_105 (f := 0) rfl (q := 0) (n := 12) (kd := 3) ⟨by decide, rfl⟩ (q2 := 1) (by decide) rfl ?_
              refine x_A k93_108 (fun _ => rfl) ?_
              refine x_A k93_109 (fun _ => rfl) ?_
              refine x_A k93_110 (fun _ => rfl) ?_
              refine x_getI k93_111 (f := 10) rfl (q := 0) (n := 12) (kd := 3) ⟨by decide, rfl⟩ (by decide) rfl ?_
              refine x_rw (q22) ?_
              refine x_callV k93_114 (y := 61) (n := 3) (w0 := 0) (w1 := 3) (as := [vi a, vi b, vi z2]) (rest := []) (by decide +kernel) (q := 1) (nq := 5) (kq := 4) ⟨by decide, rfl⟩ rfl rfl rfl rfl (xe_mono (E_X7_setParent_1 s20 hG_s20 a (by first | exact x_rb b_a rfl rfl | exact ⟨by omega, by omega⟩) b (by first | exact x_rb b_b rfl rfl | exact ⟨by omega, by omega⟩) z2 (by first | exact x_rbe e_z2 g_z2 rfl rfl | exact x_rb g_z2 rfl rfl | exact ⟨by omega, by omega⟩) ⟨by omega, by omega⟩) ?_)
              rintro s28 v ⟨hG_s28, t_s28, rfl, xp_z27⟩
              have f_s28 : FL [384, 3276, 3277] s0 s28 := f_s20.tr t_s28 (by decide)
              have q29 : s28 1 4 = z1 := (t_s28 1 4 (show 69 ∉ [384] from by decide)).trans q21
              have q30 : s28 0 10 = z2 := (t_s28 0 10 (show 11 ∉ [384] from by decide)).trans q22
              have q31 : s28 243 11 = z23 := (t_s28 243 11 (show 3276 ∉ [384] from by decide)).trans e_z23.symm
              have q32 : s28 243 12 = z24 := (t_s28 243 12 (show 3277 ∉ [384] from by decide)).trans e_z24.symm
              show xe none 93 117 [(3, vi z25), (0, .ref 0), (1, vi a), (2, vi b)] [] s28 0 0 _
              refine x_A k93_117 (fun _ => rfl) ?_
              have VCj_r : VCj s28 := (VCj.no (show s28 243 11 = 0 by omega))
              have VCl_r : VCl s28 := (VCl.no (show s28 243 12 = -1 by omega))
              exact x_iret k93_118 rfl ⟨hG_s28, f_s28, z25, rfl, (by first | exact x_rbe e_z25 g_z25 rfl rfl | exact x_rb g_z25 rfl rfl | exact ⟨by omega, by omega⟩), (by unfold MvC; exact xp_z27.elim (fun u => by exfalso; omega) (fun u => Or.inr (Or.inr ⟨by omega, ⟨by omega, fun w => xp_z16.elim (fun q => by exfalso; omega) (fun q => q.2 ⟨by omega, by rw [show z2 = s0 0 10 by omega]; exact w⟩)⟩, by rw [xp_z25]; unfold parC; rw [if_pos (by omega), FR _ _ (by omega) (by omega), show z2 = s0 0 10 by omega], fun r j h1 h2 => by rw [u.2 r j h1 h2, FR r j h1 h2, show z2 = s0 0 10 by omega]⟩))), VCj_r, VCl_r⟩
            · skip
              refine x_sipush k93_80 (by decide +kernel) ?_
              exact x_iret k93_83 rfl ⟨hG0, f0, (-1003), rfl, ⟨by decide, by decide⟩, (by unfold MvC; exact Or.inr (Or.inl ⟨by omega, fun w => xp_z16.elim (fun q => w.2 (by have q2 := q.2.2; rw [show z2 = s0 0 10 by omega] at q2; exact q2)) (fun q => by exfalso; omega), rfl, fun _ _ _ _ => rfl⟩)), i0_VCj, i0_VCl⟩
          · rw [e_z13]
            show xe none 93 57 [(0, .ref 0), (1, vi a), (2, vi b)] [vi 0] s0 0 0 _
            refine x_if_ne k93_57 (t := 64) rfl ⟨by decide, by decide⟩ (fun c33 => by exfalso; omega) (fun c33 => ?_)
            refine x_sipush k93_60 (by decide +kernel) ?_
            exact x_iret k93_63 rfl ⟨hG0, f0, (-1003), rfl, ⟨by decide, by decide⟩, (by unfold MvC; exact Or.inr (Or.inl ⟨by omega, fun w => by obtain ⟨w1, -⟩ := w; omega, rfl, fun _ _ _ _ => rfl⟩)), i0_VCj, i0_VCl⟩
        · rw [e_z10]
          show xe none 93 42 [(0, .ref 0), (1, vi a), (2, vi b)] [vi 0] s0 0 0 _
          refine x_if_eq k93_42 (t := 60) rfl ⟨by decide, by decide⟩ (fun c34 => ?_) (fun c34 => by exfalso; omega)
          refine x_sipush k93_60 (by decide +kernel) ?_
          exact x_iret k93_63 rfl ⟨hG0, f0, (-1003), rfl, ⟨by decide, by decide⟩, (by unfold MvC; exact Or.inr (Or.inl ⟨by omega, fun w => by obtain ⟨w1, -⟩ := w; omega, rfl, fun _ _ _ _ => rfl⟩)), i0_VCj, i0_VCl⟩
    · rw [e_z6]
      show xe none 93 19 [(0, .ref 0), (1, vi a), (2, vi b)] [vi 0] s0 0 0 _
      refine x_if_ne k93_19 (t := 26) rfl ⟨by decide, by decide⟩ (fun c35 => by exfalso; omega) (fun c35 => ?_)
      refine x_sipush k93_22 (by decide +kernel) ?_
      exact x_iret k93_25 rfl ⟨hG0, f0, (-1001), rfl, ⟨by decide, by decide⟩, (by unfold MvC; exact Or.inl ⟨by omega, rfl, fun _ _ _ _ => rfl⟩), i0_VCj, i0_VCl⟩
  · rw [e_z3]
    show xe none 93 8 [(0, .ref 0), (1, vi a), (2, vi b)] [vi 0] s0 0 0 _
    refine x_if_eq k93_8 (t := 22) rfl ⟨by decide, by decide⟩ (fun c36 => ?_) (fun c36 => by exfalso; omega)
    refine x_sipush k93_22 (by decide +kernel) ?_
    exact x_iret k93_25 rfl ⟨hG0, f0, (-1001), rfl, ⟨by decide, by decide⟩, (by unfold MvC; exact Or.inl ⟨by omega, rfl, fun _ _ _ _ => rfl⟩), i0_VCj, i0_VCl⟩
set_option maxHeartbeats 8000000 in
theorem V_X10_doubt_0 (s0 : xS) (hG0 : GI s0) (a : Int) (b_a : (-2147483648) ≤ a ∧ a ≤ 2147483647) (b : Int) (b_b : (-2147483648) ≤ b ∧ b ≤ 2147483647) (p_50_6 : 0 ≤ s0 50 6 ∧ s0 50 6 ≤ 120) (p_0_10 : 0 ≤ s0 0 10 ∧ s0 0 10 ≤ 9) (i0_VCj : VCj s0) (i0_VCl : VCl s0) : xe none 99 0 (lv_args 0 [.ref 0, vi a, vi b]) [] s0 0 0 (fun s' v => GI s' ∧ FL [1152, 3276, 3277] s0 s' ∧ ∃ z, v = some (vi z) ∧ ((-1004) ≤ z ∧ z ≤ 8) ∧ (DoC s0 s' a b z) ∧ VCj s' ∧ VCl s') := by
  have f0 : FL [1152, 3276, 3277] s0 s0 := FL.rf
  show xe none 99 0 [(0, .ref 0), (1, vi a), (2, vi b)] [] s0 0 0 _
  obtain ⟨z1, e_z1⟩ : ∃ z, z = s0 50 6 := ⟨_, rfl⟩
  have g_z1 : (0 : Int) ≤ s0 50 6 ∧ s0 50 6 ≤ 120 := hG0 50 6
  obtain ⟨z2, e_z2⟩ : ∃ z, z = s0 0 10 := ⟨_, rfl⟩
  have g_z2 : (0 : Int) ≤ s0 0 10 ∧ s0 0 10 ≤ 9 := hG0 0 10
  refine x_A k99_0 (fun _ => rfl) ?_
  refine x_getR k99_1 (f := 2) rfl (q := 0) (n := 12) (kd := 3) ⟨by decide, rfl⟩ (q2 := 50) (by decide) rfl ?_
  refine x_A k99_4 (fun _ => rfl) ?_
  refine x_callV k99_5 (y := 24) (n := 1) (w0 := 0) (w1 := 1) (as := [vi a]) (rest := []) (by decide +kernel) (q := 50) (nq := 7) (kq := 6) ⟨by decide, rfl⟩ rfl rfl rfl rfl (xe_mono (C_X2_has_50 s0 hG0 a (by first | exact x_rb b_a rfl rfl | exact ⟨by omega, by omega⟩)) ?_)
  rintro s4 v ⟨h_s4, z3, rfl, hz_z3⟩
  rw [h_s4]
  rcases hz_z3 with ⟨c_z3, e_z3⟩ | ⟨c_z3, e_z3⟩
  · rw [e_z3]
    show xe none 99 8 [(0, .ref 0), (1, vi a), (2, vi b)] [vi 1] s0 0 0 _
    refine x_if_ne k99_8 (t := 15) rfl ⟨by decide, by decide⟩ (fun c5 => ?_) (fun c5 => by exfalso; omega)
    refine x_A k99_15 (fun _ => rfl) ?_
    refine x_callS k99_16 (y := 123) (n := 1) (w0 := 0) (w1 := 1) (as := [vi b]) (rest := []) (by decide +kernel) rfl rfl rfl rfl (xe_mono (C_X10_isHand s0 hG0 b (by first | exact x_rb b_b rfl rfl | exact ⟨by omega, by omega⟩)) ?_)
    rintro s7 v ⟨h_s7, z6, rfl, hz_z6⟩
    rw [h_s7]
    rcases hz_z6 with ⟨c_z6, e_z6⟩ | ⟨c_z6, e_z6⟩
    · rw [e_z6]
      show xe none 99 19 [(0, .ref 0), (1, vi a), (2, vi b)] [vi 1] s0 0 0 _
      refine x_if_ne k99_19 (t := 26) rfl ⟨by decide, by decide⟩ (fun c8 => ?_) (fun c8 => by exfalso; omega)
      refine x_A k99_26 (fun _ => rfl) ?_
      refine x_getR k99_27 (f := 2) rfl (q := 0) (n := 12) (kd := 3) ⟨by decide, rfl⟩ (q2 := 50) (by decide) rfl ?_
      refine x_getR k99_30 (f := 2) rfl (q := 50) (n := 7) (kd := 6) ⟨by decide, rfl⟩ (q2 := 53) (by decide) rfl ?_
      refine x_A k99_33 (fun _ => rfl) ?_
      refine x_iald k99_34 (q := 53) (n := 120) ⟨by decide, rfl⟩ (by decide) (by first | exact x_rbl b_a rfl rfl | exact ⟨by omega, by omega⟩) ?_
      refine x_top (fun z9 e_z9 => ?_)
      have g_z9 : (0 : Int) ≤ s0 53 a.toNat ∧ s0 53 a.toNat ≤ 7 := hG0 53 a.toNat
      refine x_A k99_35 (fun _ => rfl) ?_
      refine x_ic_eq k99_36 (t := 54) rfl (by first | exact x_rbe e_z9 g_z9 rfl rfl | exact x_rb g_z9 rfl rfl | exact ⟨by omega, by omega⟩) (by first | exact x_rb b_b rfl rfl | exact ⟨by omega, by omega⟩) (fun c10 => ?_) (fun c10 => ?_)
      · skip
        refine x_sipush k99_54 (by decide +kernel) ?_
        exact x_iret k99_57 rfl ⟨hG0, f0, (-1003), rfl, ⟨by decide, by decide⟩, (by unfold DoC; exact Or.inr (Or.inr (Or.inl ⟨by omega, by omega, by omega, rfl, fun _ _ _ _ => rfl⟩))), i0_VCj, i0_VCl⟩
      · skip
        refine x_A k99_39 (fun _ => rfl) ?_
        refine x_getR k99_40 (f := 2) rfl (q := 0) (n := 12) (kd := 3) ⟨by decide, rfl⟩ (q2 := 50) (by decide) rfl ?_
        refine x_getR k99_43 (f := 5) rfl (q := 50) (n := 7) (kd := 6) ⟨by decide, rfl⟩ (q2 := 56) (by decide) rfl ?_
        refine x_A k99_46 (fun _ => rfl) ?_
        refine x_aald k99_47 (q := 56) (t := 23) (n := 120) ⟨by decide, rfl⟩ (by decide) (by decide) ⟨by omega, by omega⟩ ?_
        refine x_A k99_48 (fun _ => rfl) ?_
        refine x_iald k99_49 (q := (56 + 1 + a.toNat)) (n := 8) (xg_57 (by omega) (by omega)) (by decide) (by first | exact x_rbl b_b rfl rfl | exact ⟨by omega, by omega⟩) ?_
        refine x_top (fun z11 e_z11 => ?_)
        have r_z11 := hG0 (56 + 1 + a.toNat) b.toNat
        rw [(gr_57 b.toNat (show 57 ≤ (56 + 1 + a.toNat) by omega) (by omega)).1, (gr_57 b.toNat (show 57 ≤ (56 + 1 + a.toNat) by omega) (by omega)).2.1, ← e_z11] at r_z11
        refine x_A k99_50 (fun _ => rfl) ?_
        refine x_ic_eq k99_51 (t := 58) rfl (by first | exact x_rbe e_z11 g_z11 rfl rfl | exact x_rb g_z11 rfl rfl | exact ⟨by omega, by omega⟩) ⟨by decide, by decide⟩ (fun c12 => ?_) (fun c12 => ?_)
        · skip
          refine x_A k99_58 (fun _ => rfl) ?_
          refine x_getR k99_59 (f := 9) rfl (q := 0) (n := 12) (kd := 3) ⟨by decide, rfl⟩ (q2 := 243) (by decide) rfl ?_
          refine x_callV k99_62 (y := 73) (n := 0) (w0 := 0) (w1 := 0) (as := []) (rest := []) (by decide +kernel) (q := 243) (nq := 13) (kq := 13) ⟨by decide, rfl⟩ rfl rfl rfl rfl (xe_mono (E_X8_forget_243 s0 hG0) ?_)
          rintro s14 v ⟨hG_s14, t_s14, rfl, xp_z13⟩
          have f_s14 : FL [1152, 3276, 3277] s0 s14 := f0.tr t_s14 (by decide)
          have q15 : s14 50 6 = z1 := (t_s14 50 6 (show 711 ∉ [3276, 3277] from by decide)).trans e_z1.symm
          have q16 : s14 0 10 = z2 := (t_s14 0 10 (show 11 ∉ [3276, 3277] from by decide)).trans e_z2.symm
          have q17 : s14 53 a.toNat = z9 := (t_s14 53 a.toNat (show 896 ∉ [3276, 3277] from by decide)).trans e_z9.symm
          obtain ⟨z18, e_z18⟩ : ∃ z, z = s14 243 11 := ⟨_, rfl⟩
          have g_z18 : (0 : Int) ≤ s14 243 11 ∧ s14 243 11 ≤ 1 := hG_s14 243 11
          obtain ⟨z19, e_z19⟩ : ∃ z, z = s14 243 12 := ⟨_, rfl⟩
          have g_z19 : (-1) ≤ s14 243 12 ∧ s14 243 12 ≤ 9 := hG_s14 243 12
          show xe none 99 65 [(0, .ref 0), (1, vi a), (2, vi b)] [] s14 0 0 _
          have FR := rows120 t_s14 (by decide)
          refine x_A k99_65 (fun _ => rfl) ?_
          refine x_getR k99_66 (f := 2) rfl (q := 0) (n := 12) (kd := 3) ⟨by decide, rfl⟩ (q2 := 50) (by decide) rfl ?_
          refine x_getR k99_69 (f := 5) rfl (q := 50) (n := 7) (kd := 6) ⟨by decide, rfl⟩ (q2 := 56) (by decide) rfl ?_
          refine x_A k99_72 (fun _ => rfl) ?_
          refine x_aald k99_73 (q := 56) (t := 23) (n := 120) ⟨by decide, rfl⟩ (by decide) (by decide) ⟨by omega, by omega⟩ ?_
          refine x_A k99_74 (fun _ => rfl) ?_
          refine x_A k99_75 (fun _ => rfl) ?_
          refine x_getI k99_76 (f := 10) rfl (q := 0) (n := 12) (kd := 3) ⟨by decide, rfl⟩ (by decide) rfl ?_
          refine x_rw (q16) ?_
          refine x_iast k99_79 (q := (56 + 1 + a.toNat)) (n := 8) (xg_57 (by omega) (by omega)) (by decide) (by first | exact x_rbl b_b rfl rfl | exact ⟨by omega, by omega⟩) ?_
          refine x_nh (fun s20 e_s20 => ?_)
          have w21 := gr_57 b.toNat (show 57 ≤ (56 + 1 + a.toNat) by omega) (by omega)
          have hG_s20 : GI s20 := by rw [e_s20]; exact hG_s14.up (by rw [w21.1, w21.2.1]; exact (show (-1) ≤ z2 ∧ z2 ≤ 9 from (by first | exact x_rbe e_z2 g_z2 rfl rfl | exact x_rb g_z2 rfl rfl | exact ⟨by omega, by omega⟩)))
          have f_s20 : FL [1152, 3276, 3277] s0 s20 := by rw [e_s20]; exact f_s14.up (by rw [w21.2.2]; decide)
          have q22 : s20 50 6 = z1 := by rw [e_s20, x_up_q (by omega)]; exact q15
          have q23 : s20 0 10 = z2 := by rw [e_s20, x_up_q (by omega)]; exact q16
          have q24 : s20 243 11 = z18 := by rw [e_s20, x_up_q (by omega)]; exact e_z18.symm
          have q25 : s20 243 12 = z19 := by rw [e_s20, x_up_q (by omega)]; exact e_z19.symm
          have q26 : s20 53 a.toNat = z9 := by rw [e_s20, x_up_q (by first | decide | omega)]; exact q17
          have q27 : s20 (56 + 1 + a.toNat) b.toNat = z2 := by rw [e_s20]; exact x_up_same
          refine x_A k99_80 (fun _ => rfl) ?_
          refine x_getR k99_81 (f := 2) rfl (q := 0) (n := 12) (kd := 3) ⟨by decide, rfl⟩ (q2 := 50) (by decide) rfl ?_
          refine x_A k99_84 (fun _ => rfl) ?_
          refine x_A k99_85 (fun _ => rfl) ?_
          refine x_getI k99_86 (f := 10) rfl (q := 0) (n := 12) (kd := 3) ⟨by decide, rfl⟩ (by decide) rfl ?_
          refine x_rw (q23) ?_
          refine x_callV k99_89 (y := 26) (n := 2) (w0 := 0) (w1 := 2) (as := [vi a, vi z2]) (rest := []) (by decide +kernel) (q := 50) (nq := 7) (kq := 6) ⟨by decide, rfl⟩ rfl rfl rfl rfl (xe_mono (E_X2_doubters_50 s20 hG_s20 a (by first | exact x_rb b_a rfl rfl | exact ⟨by omega, by omega⟩) z2 (by first | exact x_rbe e_z2 g_z2 rfl rfl | exact x_rb g_z2 rfl rfl | exact ⟨by omega, by omega⟩) ⟨by omega, by omega⟩) ?_)
          rintro s29 v ⟨-, t_s29, z28, rfl, g_z28, xp_z28⟩
          rw [t_s29.nil]
          try rw [t_s29.nil] at xp_z28
          show xe none 99 92 [(0, .ref 0), (1, vi a), (2, vi b)] [vi z28] s20 0 0 _
          have VCj_r : VCj s20 := (VCj.no (show s20 243 11 = 0 by omega))
          have VCl_r : VCl s20 := (VCl.no (show s20 243 12 = -1 by omega))
          exact x_iret k99_92 rfl ⟨hG_s20, f_s20, z28, rfl, (by first | exact x_rbe e_z28 g_z28 rfl rfl | exact x_rb g_z28 rfl rfl | exact ⟨by omega, by omega⟩), (by unfold DoC; exact xp_z28.elim (fun ⟨u1, u2⟩ => by exfalso; omega) (fun ⟨u1, u2⟩ => Or.inr (Or.inr (Or.inr ⟨by omega, by omega, by omega, by rw [u2, show z2 = s0 0 10 by omega], fun r j h1 h2 => by rw [e_s20, x_up_def, show z2 = s0 0 10 by omega, FR r j h1 h2]⟩)))), VCj_r, VCl_r⟩
        · skip
          refine x_sipush k99_54 (by decide +kernel) ?_
          exact x_iret k99_57 rfl ⟨hG0, f0, (-1003), rfl, ⟨by decide, by decide⟩, (by unfold DoC; exact Or.inr (Or.inr (Or.inl ⟨by omega, by omega, by omega, rfl, fun _ _ _ _ => rfl⟩))), i0_VCj, i0_VCl⟩
    · rw [e_z6]
      show xe none 99 19 [(0, .ref 0), (1, vi a), (2, vi b)] [vi 0] s0 0 0 _
      refine x_if_ne k99_19 (t := 26) rfl ⟨by decide, by decide⟩ (fun c30 => by exfalso; omega) (fun c30 => ?_)
      refine x_sipush k99_22 (by decide +kernel) ?_
      exact x_iret k99_25 rfl ⟨hG0, f0, (-1002), rfl, ⟨by decide, by decide⟩, (by unfold DoC; exact Or.inr (Or.inl ⟨by omega, by omega, rfl, fun _ _ _ _ => rfl⟩)), i0_VCj, i0_VCl⟩
  · rw [e_z3]
    show xe none 99 8 [(0, .ref 0), (1, vi a), (2, vi b)] [vi 0] s0 0 0 _
    refine x_if_ne k99_8 (t := 15) rfl ⟨by decide, by decide⟩ (fun c31 => by exfalso; omega) (fun c31 => ?_)
    refine x_sipush k99_11 (by decide +kernel) ?_
    exact x_iret k99_14 rfl ⟨hG0, f0, (-1001), rfl, ⟨by decide, by decide⟩, (by unfold DoC; exact Or.inl ⟨by omega, rfl, fun _ _ _ _ => rfl⟩), i0_VCj, i0_VCl⟩
