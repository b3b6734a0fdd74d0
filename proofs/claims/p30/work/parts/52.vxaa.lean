set_option maxHeartbeats 8000000 in
theorem W_X5_addMark_231 (s0 : xS) (hG0 : GI s0) (a : Int) (b_a : 0 ≤ a ∧ a ≤ 3) (b : Int) (b_b : 0 ≤ b ∧ b ≤ 5) (d : Int) (b_d : 0 ≤ d ∧ d ≤ 39) : xe none 45 0 (lv_args 0 [.ref 231, vi a, vi b, vi d]) [] s0 0 0 (fun s' v => GI s' ∧ FL [2944, 3072, 3200] s0 s' ∧ ∃ z, v = some (vi z) ∧ ((-1004) ≤ z ∧ z ≤ 3) ∧ ((((5 ≤ b ∨ 3 ≤ s0 (233 + 1 + a.toNat) b.toNat) ∧ z = -1004 ∧ s' 232 = s0 232 ∧ ∀ r j : Nat, r < 4 → s' (233 + 1 + r) j = s0 (233 + 1 + r) j) ∨ ((b < 5 ∧ s0 (233 + 1 + a.toNat) b.toNat < 3) ∧ z = s0 (233 + 1 + a.toNat) b.toNat + 1 ∧ (∀ j : Nat, s' 232 j = if j = a.toNat ∧ b = s0 232 a.toNat then b + 1 else s0 232 j) ∧ ∀ r j : Nat, r < 4 → s' (233 + 1 + r) j = if r = a.toNat ∧ j = b.toNat then z else s0 (233 + 1 + r) j)) ∧ MoMC s0 s' a b d z)) := by
  have f0 : FL [2944, 3072, 3200] s0 s0 := FL.rf
  show xe none 45 0 [(0, .ref 231), (1, vi a), (2, vi b), (3, vi d)] [] s0 0 0 _
  refine x_A k45_0 (fun _ => rfl) ?_
  refine x_A k45_1 (fun _ => rfl) ?_
  refine x_ic_ge k45_2 (t := 17) rfl ⟨by omega, by omega⟩ ⟨by omega, by omega⟩ (fun c1 => ?_) (fun c1 => ?_)
  · skip
    refine x_sipush k45_17 (by decide +kernel) ?_
    exact x_iret k45_20 rfl ⟨hG0, f0, (-1004), rfl, ⟨by omega, by omega⟩, ⟨Or.inl ⟨by omega, rfl, rfl, fun _ _ _ => rfl⟩, fun _ _ _ _ => rfl, fun q => by exfalso; omega⟩⟩
  · skip
    refine x_A k45_5 (fun _ => rfl) ?_
    refine x_getR k45_6 (f := 1) rfl (q := 231) (n := 4) (kd := 12) ⟨by decide, rfl⟩ (q2 := 233) (by decide) rfl ?_
    refine x_A k45_9 (fun _ => rfl) ?_
    refine x_aald k45_10 (q := 233) (t := 23) (n := 4) ⟨by decide, rfl⟩ (by decide) (by decide) ⟨by omega, by omega⟩ ?_
    refine x_A k45_11 (fun _ => rfl) ?_
    refine x_iald k45_12 (q := (233 + 1 + a.toNat)) (n := 5) (xg_234 (by omega) (by omega)) (by decide) ⟨by omega, by omega⟩ ?_
    refine x_top (fun z2 e_z2 => ?_)
    have r_z2 := hG0 (233 + 1 + a.toNat) b.toNat
    rw [(gr_234 b.toNat (show 234 ≤ (233 + 1 + a.toNat) by omega) (by omega)).1, (gr_234 b.toNat (show 234 ≤ (233 + 1 + a.toNat) by omega) (by omega)).2.1, ← e_z2] at r_z2
    refine x_A k45_13 (fun _ => rfl) ?_
    refine x_ic_lt k45_14 (t := 21) rfl ⟨by omega, by omega⟩ ⟨by omega, by omega⟩ (fun c3 => ?_) (fun c3 => ?_)
    · skip
      refine x_A k45_21 (fun _ => rfl) ?_
      refine x_A k45_22 (fun _ => rfl) ?_
      refine x_getR k45_23 (f := 0) rfl (q := 231) (n := 4) (kd := 12) ⟨by decide, rfl⟩ (q2 := 232) (by decide) rfl ?_
      refine x_A k45_26 (fun _ => rfl) ?_
      refine x_iald k45_27 (q := 232) (n := 4) ⟨by decide, rfl⟩ (by decide) ⟨by omega, by omega⟩ ?_
      refine x_top (fun z4 e_z4 => ?_)
      have g_z4 : (0 : Int) ≤ s0 232 a.toNat ∧ s0 232 a.toNat ≤ 5 := hG0 232 a.toNat
      refine x_ic_ne k45_28 (t := 41) rfl ⟨by omega, by omega⟩ ⟨by omega, by omega⟩ (fun c5 => ?_) (fun c5 => ?_)
      · skip
        refine x_A k45_41 (fun _ => rfl) ?_
        refine x_getR k45_42 (f := 2) rfl (q := 231) (n := 4) (kd := 12) ⟨by decide, rfl⟩ (q2 := 238) (by decide) rfl ?_
        refine x_A k45_45 (fun _ => rfl) ?_
        refine x_aald k45_46 (q := 238) (t := 24) (n := 4) ⟨by decide, rfl⟩ (by decide) (by decide) ⟨by omega, by omega⟩ ?_
        refine x_A k45_47 (fun _ => rfl) ?_
        refine x_A k45_48 (fun _ => rfl) ?_
        refine x_lald k45_49 (q := (238 + 1 + a.toNat)) (n := 5) (xg_239 (by omega) (by omega)) (by decide) ⟨by omega, by omega⟩ ?_
        refine x_topL (fun z6 e_z6 => ?_)
        have r_z6 := hG0 (238 + 1 + a.toNat) b.toNat
        rw [(gr_239 b.toNat (show 239 ≤ (238 + 1 + a.toNat) by omega) (by omega)).1, (gr_239 b.toNat (show 239 ≤ (238 + 1 + a.toNat) by omega) (by omega)).2.1, ← e_z6] at r_z6
        have b_z6 : in64 z6 := r_z6
        refine x_lconst k45_50 (z := 1) (by decide +kernel) ?_
        refine x_A k45_51 (fun _ => rfl) ?_
        refine x_lshl1 k45_52 ⟨by omega, by omega⟩ (fun z7 b_z7 g_z7 => ?_)
        refine x_lor_b k45_53 (fun z8 b_z8 g_z8 => ?_)
        refine x_last k45_54 (q := (238 + 1 + a.toNat)) (n := 5) (xg_239 (by omega) (by omega)) (by decide) ⟨by omega, by omega⟩ ?_
        refine x_nh (fun s9 e_s9 => ?_)
        have w10 := gr_239 b.toNat (show 239 ≤ (238 + 1 + a.toNat) by omega) (by omega)
        have hG_s9 : GI s9 := by rw [e_s9]; exact hG0.up (by rw [w10.1, w10.2.1]; exact (show in64 z8 from b_z8))
        have f_s9 : FL [2944, 3072, 3200] s0 s9 := by rw [e_s9]; exact f0.up (by rw [w10.2.2]; decide)
        have q11 : s9 (233 + 1 + a.toNat) b.toNat = z2 := by rw [e_s9, x_up_q (by omega)]; exact e_z2.symm
        have q12 : s9 232 a.toNat = z4 := by rw [e_s9, x_up_q (by omega)]; exact e_z4.symm
        refine x_A k45_55 (fun _ => rfl) ?_
        refine x_getR k45_56 (f := 1) rfl (q := 231) (n := 4) (kd := 12) ⟨by decide, rfl⟩ (q2 := 233) (by decide) rfl ?_
        refine x_A k45_59 (fun _ => rfl) ?_
        refine x_aald k45_60 (q := 233) (t := 23) (n := 4) ⟨by decide, rfl⟩ (by decide) (by decide) ⟨by omega, by omega⟩ ?_
        refine x_A k45_61 (fun _ => rfl) ?_
        refine x_A k45_62 (fun _ => rfl) ?_
        refine x_iald k45_63 (q := (233 + 1 + a.toNat)) (n := 5) (xg_234 (by omega) (by omega)) (by decide) ⟨by omega, by omega⟩ ?_
        refine x_rw (q11) ?_
        refine x_A k45_64 (fun _ => rfl) ?_
        refine x_iadd k45_65 ?_
        refine x_top (fun z13 e_z13 => ?_)
        refine x_iast k45_66 (q := (233 + 1 + a.toNat)) (n := 5) (xg_234 (by omega) (by omega)) (by decide) ⟨by omega, by omega⟩ ?_
        refine x_nh (fun s14 e_s14 => ?_)
        have w15 := gr_234 b.toNat (show 234 ≤ (233 + 1 + a.toNat) by omega) (by omega)
        have hG_s14 : GI s14 := by rw [e_s14]; exact hG_s9.up (by rw [w15.1, w15.2.1]; exact (show 0 ≤ z13 ∧ z13 ≤ 3 from ⟨by omega, by omega⟩))
        have f_s14 : FL [2944, 3072, 3200] s0 s14 := by rw [e_s14]; exact f_s9.up (by rw [w15.2.2]; decide)
        have q16 : s14 232 a.toNat = z4 := by rw [e_s14, x_up_q (by omega)]; exact q12
        have q17 : s14 (233 + 1 + a.toNat) b.toNat = z13 := by rw [e_s14]; exact x_up_same
        refine x_A k45_67 (fun _ => rfl) ?_
        refine x_getR k45_68 (f := 1) rfl (q := 231) (n := 4) (kd := 12) ⟨by decide, rfl⟩ (q2 := 233) (by decide) rfl ?_
        refine x_A k45_71 (fun _ => rfl) ?_
        refine x_aald k45_72 (q := 233) (t := 23) (n := 4) ⟨by decide, rfl⟩ (by decide) (by decide) ⟨by omega, by omega⟩ ?_
        refine x_A k45_73 (fun _ => rfl) ?_
        refine x_iald k45_74 (q := (233 + 1 + a.toNat)) (n := 5) (xg_234 (by omega) (by omega)) (by decide) ⟨by omega, by omega⟩ ?_
        refine x_rw (q17) ?_
        exact x_iret k45_75 rfl ⟨hG_s14, f_s14, z13, rfl, ⟨by omega, by omega⟩, ⟨Or.inr ⟨by omega, by omega, fun j => by rw [e_s14, x_up_q (by omega), e_s9, x_up_q (by omega), if_and_f (show ¬ b = s0 232 a.toNat by omega)], fun r j hr => by rw [e_s14, x_up_rw, e_s9, x_up_q (by omega)]⟩, fun q => by exfalso; omega, fun _ => ⟨fun r j hr hn => by rw [e_s14, x_up_q (by omega), e_s9, x_up_rw, if_neg hn], fun k hk => by rw [e_s14, x_up_q (by omega), e_s9, x_up_rw, if_pos ⟨rfl, rfl⟩, g_z8 k, g_z7 k hk, show z6 = s0 (238 + 1 + a.toNat) b.toNat from by rw [e_z6]]⟩⟩⟩
      · skip
        refine x_A k45_31 (fun _ => rfl) ?_
        refine x_getR k45_32 (f := 0) rfl (q := 231) (n := 4) (kd := 12) ⟨by decide, rfl⟩ (q2 := 232) (by decide) rfl ?_
        refine x_A k45_35 (fun _ => rfl) ?_
        refine x_A k45_36 (fun _ => rfl) ?_
        refine x_iald k45_37 (q := 232) (n := 4) ⟨by decide, rfl⟩ (by decide) ⟨by omega, by omega⟩ ?_
        refine x_rw (e_z4.symm) ?_
        refine x_A k45_38 (fun _ => rfl) ?_
        refine x_iadd k45_39 ?_
        refine x_top (fun z18 e_z18 => ?_)
        refine x_iast k45_40 (q := 232) (n := 4) ⟨by decide, rfl⟩ (by decide) ⟨by omega, by omega⟩ ?_
        refine x_nh (fun s19 e_s19 => ?_)
        have hG_s19 : GI s19 := by rw [e_s19]; exact hG0.up (show 0 ≤ z18 ∧ z18 ≤ 5 from ⟨by omega, by omega⟩)
        have f_s19 : FL [2944, 3072, 3200] s0 s19 := by rw [e_s19]; exact f0.up (show 2944 ∈ [2944, 3072, 3200] from by decide)
        have q20 : s19 (233 + 1 + a.toNat) b.toNat = z2 := by rw [e_s19, x_up_q (by omega)]; exact e_z2.symm
        have q21 : s19 232 a.toNat = z18 := by rw [e_s19]; exact x_up_same
        refine x_A k45_41 (fun _ => rfl) ?_
        refine x_getR k45_42 (f := 2) rfl (q := 231) (n := 4) (kd := 12) ⟨by decide, rfl⟩ (q2 := 238) (by decide) rfl ?_
        refine x_A k45_45 (fun _ => rfl) ?_
        refine x_aald k45_46 (q := 238) (t := 24) (n := 4) ⟨by decide, rfl⟩ (by decide) (by decide) ⟨by omega, by omega⟩ ?_
        refine x_A k45_47 (fun _ => rfl) ?_
        refine x_A k45_48 (fun _ => rfl) ?_
        refine x_lald k45_49 (q := (238 + 1 + a.toNat)) (n := 5) (xg_239 (by omega) (by omega)) (by decide) ⟨by omega, by omega⟩ ?_
        refine x_topL (fun z22 e_z22 => ?_)
        have r_z22 := hG_s19 (238 + 1 + a.toNat) b.toNat
        rw [(gr_239 b.toNat (show 239 ≤ (238 + 1 + a.toNat) by omega) (by omega)).1, (gr_239 b.toNat (show 239 ≤ (238 + 1 + a.toNat) by omega) (by omega)).2.1, ← e_z22] at r_z22
        have b_z22 : in64 z22 := r_z22
        refine x_lconst k45_50 (z := 1) (by decide +kernel) ?_
        refine x_A k45_51 (fun _ => rfl) ?_
        refine x_lshl1 k45_52 ⟨by omega, by omega⟩ (fun z23 b_z23 g_z23 => ?_)
        refine x_lor_b k45_53 (fun z24 b_z24 g_z24 => ?_)
        refine x_last k45_54 (q := (238 + 1 + a.toNat)) (n := 5) (xg_239 (by omega) (by omega)) (by decide) ⟨by omega, by omega⟩ ?_
        refine x_nh (fun s25 e_s25 => ?_)
        have w26 := gr_239 b.toNat (show 239 ≤ (238 + 1 + a.toNat) by omega) (by omega)
        have hG_s25 : GI s25 := by rw [e_s25]; exact hG_s19.up (by rw [w26.1, w26.2.1]; exact (show in64 z24 from b_z24))
        have f_s25 : FL [2944, 3072, 3200] s0 s25 := by rw [e_s25]; exact f_s19.up (by rw [w26.2.2]; decide)
        have q27 : s25 (233 + 1 + a.toNat) b.toNat = z2 := by rw [e_s25, x_up_q (by omega)]; exact q20
        have q28 : s25 232 a.toNat = z18 := by rw [e_s25, x_up_q (by omega)]; exact q21
        refine x_A k45_55 (fun _ => rfl) ?_
        refine x_getR k45_56 (f := 1) rfl (q := 231) (n := 4) (kd := 12) ⟨by decide, rfl⟩ (q2 := 233) (by decide) rfl ?_
        refine x_A k45_59 (fun _ => rfl) ?_
        refine x_aald k45_60 (q := 233) (t := 23) (n := 4) ⟨by decide, rfl⟩ (by decide) (by decide) ⟨by omega, by omega⟩ ?_
        refine x_A k45_61 (fun _ => rfl) ?_
        refine x_A k45_62 (fun _ => rfl) ?_
        refine x_iald k45_63 (q := (233 + 1 + a.toNat)) (n := 5) (xg_234 (by omega) (by omega)) (by decide) ⟨by omega, by omega⟩ ?_
        refine x_rw (q27) ?_
        refine x_A k45_64 (fun _ => rfl) ?_
        refine x_iadd k45_65 ?_
        refine x_top (fun z29 e_z29 => ?_)
        refine x_iast k45_66 (q := (233 + 1 + a.toNat)) (n := 5) (xg_234 (by omega) (by omega)) (by decide) ⟨by omega, by omega⟩ ?_
        refine x_nh (fun s30 e_s30 => ?_)
        have w31 := gr_234 b.toNat (show 234 ≤ (233 + 1 + a.toNat) by omega) (by omega)
        have hG_s30 : GI s30 := by rw [e_s30]; exact hG_s25.up (by rw [w31.1, w31.2.1]; exact (show 0 ≤ z29 ∧ z29 ≤ 3 from ⟨by omega, by omega⟩))
        have f_s30 : FL [2944, 3072, 3200] s0 s30 := by rw [e_s30]; exact f_s25.up (by rw [w31.2.2]; decide)
        have q32 : s30 232 a.toNat = z18 := by rw [e_s30, x_up_q (by omega)]; exact q28
        have q33 : s30 (233 + 1 + a.toNat) b.toNat = z29 := by rw [e_s30]; exact x_up_same
        refine x_A k45_67 (fun _ => rfl) ?_
        refine x_getR k45_68 (f := 1) rfl (q := 231) (n := 4) (kd := 12) ⟨by decide, rfl⟩ (q2 := 233) (by decide) rfl ?_
        refine x_A k45_71 (fun _ => rfl) ?_
        refine x_aald k45_72 (q := 233) (t := 23) (n := 4) ⟨by decide, rfl⟩ (by decide) (by decide) ⟨by omega, by omega⟩ ?_
        refine x_A k45_73 (fun _ => rfl) ?_
        refine x_iald k45_74 (q := (233 + 1 + a.toNat)) (n := 5) (xg_234 (by omega) (by omega)) (by decide) ⟨by omega, by omega⟩ ?_
        refine x_rw (q33) ?_
        exact x_iret k45_75 rfl ⟨hG_s30, f_s30, z29, rfl, ⟨by omega, by omega⟩, ⟨Or.inr ⟨by omega, by omega, fun j => by rw [e_s30, x_up_q (by omega), e_s25, x_up_q (by omega), e_s19, x_up_at, if_and_t (show b = s0 232 a.toNat by omega), show z18 = b + 1 by omega], fun r j hr => by rw [e_s30, x_up_rw, e_s25, x_up_q (by omega), e_s19, x_up_q (by omega)]⟩, fun q => by exfalso; omega, fun _ => ⟨fun r j hr hn => by rw [e_s30, x_up_q (by omega), e_s25, x_up_rw, if_neg hn, e_s19, x_up_q (by omega)], fun k hk => by rw [e_s30, x_up_q (by omega), e_s25, x_up_rw, if_pos ⟨rfl, rfl⟩, g_z24 k, g_z23 k hk, show z22 = s0 (238 + 1 + a.toNat) b.toNat from by rw [e_z22, e_s19, x_up_q (by omega)]]⟩⟩⟩
    · skip
      refine x_sipush k45_17 (by decide +kernel) ?_
      exact x_iret k45_20 rfl ⟨hG0, f0, (-1004), rfl, ⟨by omega, by omega⟩, ⟨Or.inl ⟨by omega, rfl, rfl, fun _ _ _ => rfl⟩, fun _ _ _ _ => rfl, fun q => by exfalso; omega⟩⟩
set_option maxHeartbeats 8000000 in
theorem W_X10_moment_0 (s0 : xS) (hG0 : GI s0) (a : Int) (b_a : (-2147483648) ≤ a ∧ a ≤ 2147483647) (b : Int) (b_b : (-2147483648) ≤ b ∧ b ≤ 2147483647) (d : Int) (b_d : (-2147483648) ≤ d ∧ d ≤ 2147483647) (p_231_3 : 0 ≤ s0 231 3 ∧ s0 231 3 ≤ 4) (p_1_4 : 1 ≤ s0 1 4 ∧ s0 1 4 ≤ 40) : xe none 118 0 (lv_args 0 [.ref 0, vi a, vi b, vi d]) [] s0 0 0 (fun s' v => GI s' ∧ FL [2944, 3072, 3200] s0 s' ∧ ∃ z, v = some (vi z) ∧ ((-1004) ≤ z ∧ z ≤ 3) ∧ (MoC s0 s' a b d z ∧ MoMC s0 s' a b d z)) := by
  have f0 : FL [2944, 3072, 3200] s0 s0 := FL.rf
  show xe none 118 0 [(0, .ref 0), (1, vi a), (2, vi b), (3, vi d)] [] s0 0 0 _
  obtain ⟨z1, e_z1⟩ : ∃ z, z = s0 231 3 := ⟨_, rfl⟩
  have g_z1 : (0 : Int) ≤ s0 231 3 ∧ s0 231 3 ≤ 4 := hG0 231 3
  obtain ⟨z2, e_z2⟩ : ∃ z, z = s0 1 4 := ⟨_, rfl⟩
  have g_z2 : (1 : Int) ≤ s0 1 4 ∧ s0 1 4 ≤ 40 := hG0 1 4
  refine x_A k118_0 (fun _ => rfl) ?_
  refine x_getR k118_1 (f := 8) rfl (q := 0) (n := 12) (kd := 3) ⟨by decide, rfl⟩ (q2 := 231) (by decide) rfl ?_
  refine x_A k118_4 (fun _ => rfl) ?_
  refine x_callV k118_5 (y := 43) (n := 1) (w0 := 0) (w1 := 1) (as := [vi a]) (rest := []) (by decide +kernel) (q := 231) (nq := 4) (kq := 12) ⟨by decide, rfl⟩ rfl rfl rfl rfl (xe_mono (C_X5_has_231 s0 hG0 a ⟨by omega, by omega⟩) ?_)
  rintro s4 v ⟨h_s4, z3, rfl, hz_z3⟩
  rw [h_s4]
  rcases hz_z3 with ⟨c_z3, e_z3⟩ | ⟨c_z3, e_z3⟩
  · rw [e_z3]
    show xe none 118 8 [(0, .ref 0), (1, vi a), (2, vi b), (3, vi d)] [vi 1] s0 0 0 _
    refine x_if_eq k118_8 (t := 22) rfl ⟨by omega, by omega⟩ (fun c5 => by exfalso; omega) (fun c5 => ?_)
    refine x_A k118_11 (fun _ => rfl) ?_
    refine x_getR k118_12 (f := 0) rfl (q := 0) (n := 12) (kd := 3) ⟨by decide, rfl⟩ (q2 := 1) (by decide) rfl ?_
    refine x_A k118_15 (fun _ => rfl) ?_
    refine x_callV k118_16 (y := 59) (n := 1) (w0 := 0) (w1 := 1) (as := [vi d]) (rest := []) (by decide +kernel) (q := 1) (nq := 5) (kq := 4) ⟨by decide, rfl⟩ rfl rfl rfl rfl (xe_mono (C_X7_has_1 s0 hG0 d ⟨by omega, by omega⟩) ?_)
    rintro s7 v ⟨h_s7, z6, rfl, hz_z6⟩
    rw [h_s7]
    rcases hz_z6 with ⟨c_z6, e_z6⟩ | ⟨c_z6, e_z6⟩
    · rw [e_z6]
      show xe none 118 19 [(0, .ref 0), (1, vi a), (2, vi b), (3, vi d)] [vi 1] s0 0 0 _
      refine x_if_ne k118_19 (t := 26) rfl ⟨by omega, by omega⟩ (fun c8 => ?_) (fun c8 => by exfalso; omega)
      refine x_A k118_26 (fun _ => rfl) ?_
      refine x_A k118_27 (fun _ => rfl) ?_
      refine x_A k118_28 (fun _ => rfl) ?_
      refine x_getR k118_29 (f := 8) rfl (q := 0) (n := 12) (kd := 3) ⟨by decide, rfl⟩ (q2 := 231) (by decide) rfl ?_
      refine x_getR k118_32 (f := 0) rfl (q := 231) (n := 4) (kd := 12) ⟨by decide, rfl⟩ (q2 := 232) (by decide) rfl ?_
      refine x_A k118_35 (fun _ => rfl) ?_
      refine x_iald k118_36 (q := 232) (n := 4) ⟨by decide, rfl⟩ (by decide) ⟨by omega, by omega⟩ ?_
      refine x_top (fun z9 e_z9 => ?_)
      have g_z9 : (0 : Int) ≤ s0 232 a.toNat ∧ s0 232 a.toNat ≤ 5 := hG0 232 a.toNat
      refine x_callS k118_37 (y := 121) (n := 3) (w0 := 0) (w1 := 3) (as := [vi b, vi 0, vi z9]) (rest := []) (by decide +kernel) rfl rfl rfl rfl (xe_mono (C_X10_isWithin s0 hG0 b ⟨by omega, by omega⟩ 0 ⟨by omega, by omega⟩ z9 ⟨by omega, by omega⟩) ?_)
      rintro s11 v ⟨h_s11, z10, rfl, hz_z10⟩
      rw [h_s11]
      rcases hz_z10 with ⟨c_z10, e_z10⟩ | ⟨c_z10, e_z10⟩
      · rw [e_z10]
        show xe none 118 40 [(0, .ref 0), (1, vi a), (2, vi b), (3, vi d)] [vi 1] s0 0 0 _
        refine x_if_ne k118_40 (t := 47) rfl ⟨by omega, by omega⟩ (fun c12 => ?_) (fun c12 => by exfalso; omega)
        refine x_A k118_47 (fun _ => rfl) ?_
        refine x_getR k118_48 (f := 8) rfl (q := 0) (n := 12) (kd := 3) ⟨by decide, rfl⟩ (q2 := 231) (by decide) rfl ?_
        refine x_A k118_51 (fun _ => rfl) ?_
        refine x_A k118_52 (fun _ => rfl) ?_
        refine x_A k118_53 (fun _ => rfl) ?_
        refine x_callV k118_54 (y := 45) (n := 3) (w0 := 0) (w1 := 3) (as := [vi a, vi b, vi d]) (rest := []) (by decide +kernel) (q := 231) (nq := 4) (kq := 12) ⟨by decide, rfl⟩ rfl rfl rfl rfl (xe_mono (W_X5_addMark_231 s0 hG0 a ⟨by omega, by omega⟩ b ⟨by omega, by omega⟩ d ⟨by omega, by omega⟩) ?_)
        rintro s14 v ⟨hG_s14, t_s14, z13, rfl, g_z13, xp_z13⟩
        have f_s14 : FL [2944, 3072, 3200] s0 s14 := f0.tr t_s14 (by decide)
        have q15 : s14 231 3 = z1 := (t_s14 231 3 (show 2884 ∉ [2944, 3072, 3200] from by decide)).trans e_z1.symm
        have q16 : s14 1 4 = z2 := (t_s14 1 4 (show 69 ∉ [2944, 3072, 3200] from by decide)).trans e_z2.symm
        show xe none 118 57 [(0, .ref 0), (1, vi a), (2, vi b), (3, vi d)] [vi z13] s14 0 0 _
        exact x_iret k118_57 rfl ⟨hG_s14, f_s14, z13, rfl, ⟨by omega, by omega⟩, ⟨(by unfold MoC; exact xp_z13.1.elim (fun ⟨u1, u2, u3, u4⟩ => Or.inr (Or.inr (Or.inl ⟨by omega, by omega, u1, u2, u3, u4⟩))) (fun ⟨u1, u2, u3, u4⟩ => Or.inr (Or.inr (Or.inr ⟨by omega, by omega, u1, u2, u3, u4⟩)))), xp_z13.2⟩⟩
      · rw [e_z10]
        show xe none 118 40 [(0, .ref 0), (1, vi a), (2, vi b), (3, vi d)] [vi 0] s0 0 0 _
        refine x_if_ne k118_40 (t := 47) rfl ⟨by omega, by omega⟩ (fun c17 => by exfalso; omega) (fun c17 => ?_)
        refine x_sipush k118_43 (by decide +kernel) ?_
        exact x_iret k118_46 rfl ⟨hG0, f0, (-1002), rfl, ⟨by omega, by omega⟩, ⟨(by unfold MoC; exact Or.inr (Or.inl ⟨by omega, by omega, rfl, rfl, fun _ _ _ => rfl⟩)), fun _ _ _ _ => rfl, fun q => by exfalso; omega⟩⟩
    · rw [e_z6]
      show xe none 118 19 [(0, .ref 0), (1, vi a), (2, vi b), (3, vi d)] [vi 0] s0 0 0 _
      refine x_if_ne k118_19 (t := 26) rfl ⟨by omega, by omega⟩ (fun c18 => by exfalso; omega) (fun c18 => ?_)
      refine x_sipush k118_22 (by decide +kernel) ?_
      exact x_iret k118_25 rfl ⟨hG0, f0, (-1001), rfl, ⟨by omega, by omega⟩, ⟨(by unfold MoC; exact Or.inl ⟨by omega, rfl, rfl, fun _ _ _ => rfl⟩), fun _ _ _ _ => rfl, fun q => by exfalso; omega⟩⟩
  · rw [e_z3]
    show xe none 118 8 [(0, .ref 0), (1, vi a), (2, vi b), (3, vi d)] [vi 0] s0 0 0 _
    refine x_if_eq k118_8 (t := 22) rfl ⟨by omega, by omega⟩ (fun c19 => ?_) (fun c19 => by exfalso; omega)
    refine x_sipush k118_22 (by decide +kernel) ?_
    exact x_iret k118_25 rfl ⟨hG0, f0, (-1001), rfl, ⟨by omega, by omega⟩, ⟨(by unfold MoC; exact Or.inl ⟨by omega, rfl, rfl, fun _ _ _ => rfl⟩), fun _ _ _ _ => rfl, fun q => by exfalso; omega⟩⟩
set_option maxHeartbeats 8000000 in
theorem W_X11_moment_256 (s0 : xS) (hG0 : GI s0) (a : Int) (b_a : (-2147483648) ≤ a ∧ a ≤ 2147483647) (b : Int) (b_b : (-2147483648) ≤ b ∧ b ≤ 2147483647) (d : Int) (b_d : (-2147483648) ≤ d ∧ d ≤ 2147483647) (p_256_58 : 0 ≤ s0 256 58 ∧ s0 256 58 ≤ 4) (p_256_1 : 1 ≤ s0 256 1 ∧ s0 256 1 ≤ 40) : xe none 216 0 (lv_args 0 [.ref 256, vi a, vi b, vi d]) [] s0 0 0 (fun s' v => GI s' ∧ FL [6400, 6464, 6528] s0 s' ∧ ∃ z, v = some (vi z) ∧ ((-1004) ≤ z ∧ z ≤ 3) ∧ (MoR s0 s' a b d z ∧ MoMR s0 s' a b d z)) := by
  have f0 : FL [6400, 6464, 6528] s0 s0 := FL.rf
  show xe none 216 0 [(0, .ref 256), (1, vi a), (2, vi b), (3, vi d)] [] s0 0 0 _
  obtain ⟨z1, e_z1⟩ : ∃ z, z = s0 256 58 := ⟨_, rfl⟩
  have g_z1 : (0 : Int) ≤ s0 256 58 ∧ s0 256 58 ≤ 4 := hG0 256 58
  obtain ⟨z2, e_z2⟩ : ∃ z, z = s0 256 1 := ⟨_, rfl⟩
  have g_z2 : (1 : Int) ≤ s0 256 1 ∧ s0 256 1 ≤ 40 := hG0 256 1
  refine x_A k216_0 (fun _ => rfl) ?_
  refine x_i2l k216_1 ⟨by omega, by omega⟩ ?_
  refine x_lconst k216_2 (z := 0) (by decide +kernel) ?_
  refine x_A k216_3 (fun _ => rfl) ?_
  refine x_getI k216_4 (f := 58) rfl (q := 256) (n := 62) (kd := 15) ⟨by decide, rfl⟩ (by decide) rfl ?_
  refine x_rw (e_z1.symm) ?_
  refine x_A k216_7 (fun _ => rfl) ?_
  refine x_isub k216_8 ?_
  refine x_top (fun z3 e_z3 => ?_)
  refine x_i2l k216_9 ⟨by omega, by omega⟩ ?_
  refine x_callS k216_10 (y := 136) (n := 3) (w0 := 0) (w1 := 6) (as := [vj a, vj 0, vj z3]) (rest := []) (by decide +kernel) rfl rfl rfl rfl (xe_mono (C_X11_in s0 hG0 a ⟨by omega, by omega⟩ 0 ⟨by omega, by omega⟩ z3 ⟨by omega, by omega⟩) ?_)
  rintro s5 v ⟨h_s5, z4, rfl, hz_z4⟩
  rw [h_s5]
  rcases hz_z4 with ⟨c_z4, e_z4⟩ | ⟨c_z4, e_z4⟩
  · rw [e_z4]
    show xe none 216 13 [(0, .ref 256), (1, vi a), (2, vi b), (3, vi d)] [vi 1] s0 0 0 _
    refine x_if_eq k216_13 (t := 24) rfl ⟨by omega, by omega⟩ (fun c6 => by exfalso; omega) (fun c6 => ?_)
    refine x_A k216_16 (fun _ => rfl) ?_
    refine x_A k216_17 (fun _ => rfl) ?_
    refine x_callV k216_18 (y := 137) (n := 1) (w0 := 0) (w1 := 1) (as := [vi d]) (rest := []) (by decide +kernel) (q := 256) (nq := 62) (kq := 15) ⟨by decide, rfl⟩ rfl rfl rfl rfl (xe_mono (C_X11_isMark_256 s0 hG0 d ⟨by omega, by omega⟩) ?_)
    rintro s8 v ⟨h_s8, z7, rfl, hz_z7⟩
    rw [h_s8]
    rcases hz_z7 with ⟨c_z7, e_z7⟩ | ⟨c_z7, e_z7⟩
    · rw [e_z7]
      show xe none 216 21 [(0, .ref 256), (1, vi a), (2, vi b), (3, vi d)] [vi 1] s0 0 0 _
      refine x_if_ne k216_21 (t := 28) rfl ⟨by omega, by omega⟩ (fun c9 => ?_) (fun c9 => by exfalso; omega)
      refine x_A k216_28 (fun _ => rfl) ?_
      refine x_i2l k216_29 ⟨by omega, by omega⟩ ?_
      refine x_lconst k216_30 (z := 0) (by decide +kernel) ?_
      refine x_A k216_31 (fun _ => rfl) ?_
      refine x_getR k216_32 (f := 59) rfl (q := 256) (n := 62) (kd := 15) ⟨by decide, rfl⟩ (q2 := 292) (by decide) rfl ?_
      refine x_A k216_35 (fun _ => rfl) ?_
      refine x_iald k216_36 (q := 292) (n := 4) ⟨by decide, rfl⟩ (by decide) ⟨by omega, by omega⟩ ?_
      refine x_top (fun z10 e_z10 => ?_)
      have g_z10 : (0 : Int) ≤ s0 292 a.toNat ∧ s0 292 a.toNat ≤ 5 := hG0 292 a.toNat
      refine x_i2l k216_37 ⟨by omega, by omega⟩ ?_
      refine x_callS k216_38 (y := 136) (n := 3) (w0 := 0) (w1 := 6) (as := [vj b, vj 0, vj z10]) (rest := []) (by decide +kernel) rfl rfl rfl rfl (xe_mono (C_X11_in s0 hG0 b ⟨by omega, by omega⟩ 0 ⟨by omega, by omega⟩ z10 ⟨by omega, by omega⟩) ?_)
      rintro s12 v ⟨h_s12, z11, rfl, hz_z11⟩
      rw [h_s12]
      rcases hz_z11 with ⟨c_z11, e_z11⟩ | ⟨c_z11, e_z11⟩
      · rw [e_z11]
        show xe none 216 41 [(0, .ref 256), (1, vi a), (2, vi b), (3, vi d)] [vi 1] s0 0 0 _
        refine x_if_ne k216_41 (t := 48) rfl ⟨by omega, by omega⟩ (fun c13 => ?_) (fun c13 => by exfalso; omega)
        refine x_A k216_48 (fun _ => rfl) ?_
        refine x_A k216_49 (fun _ => rfl) ?_
        refine x_imul k216_50 ?_
        refine x_top (fun z14 e_z14 => ?_)
        refine x_A k216_51 (fun _ => rfl) ?_
        refine x_iadd k216_52 ?_
        refine x_top (fun z15 e_z15 => ?_)
        refine x_istore k216_53 (ls' := [(4, vi z15), (0, .ref 256), (1, vi a), (2, vi b), (3, vi d)]) (by decide) rfl ?_
        refine x_A k216_55 (fun _ => rfl) ?_
        refine x_A k216_56 (fun _ => rfl) ?_
        refine x_ic_eq k216_57 (t := 81) rfl ⟨by omega, by omega⟩ ⟨by omega, by omega⟩ (fun c16 => ?_) (fun c16 => ?_)
        · skip
          have FUL : (b = 5 ∨ (b < s0 292 a.toNat ∧ s0 293 (5 * a + b).toNat = 3)) := (by omega)
          refine x_sipush k216_81 (by decide +kernel) ?_
          exact x_iret k216_84 rfl ⟨hG0, f0, (-1004), rfl, ⟨by omega, by omega⟩, ⟨(by unfold MoR; exact Or.inr (Or.inr (Or.inl ⟨by omega, by omega, (FUL), rfl, rfl, rfl⟩))), fun _ => rfl, fun q => by exfalso; omega⟩⟩
        · skip
          refine x_A k216_60 (fun _ => rfl) ?_
          refine x_A k216_61 (fun _ => rfl) ?_
          refine x_getR k216_62 (f := 59) rfl (q := 256) (n := 62) (kd := 15) ⟨by decide, rfl⟩ (q2 := 292) (by decide) rfl ?_
          refine x_A k216_65 (fun _ => rfl) ?_
          refine x_iald k216_66 (q := 292) (n := 4) ⟨by decide, rfl⟩ (by decide) ⟨by omega, by omega⟩ ?_
          refine x_rw (e_z10.symm) ?_
          refine x_ic_ge k216_67 (t := 85) rfl ⟨by omega, by omega⟩ ⟨by omega, by omega⟩ (fun c17 => ?_) (fun c17 => ?_)
          · skip
            have NF : ¬ (b = 5 ∨ (b < s0 292 a.toNat ∧ s0 293 (5 * a + b).toNat = 3)) := (by omega)
            refine x_A k216_85 (fun _ => rfl) ?_
            refine x_A k216_86 (fun _ => rfl) ?_
            refine x_getR k216_87 (f := 59) rfl (q := 256) (n := 62) (kd := 15) ⟨by decide, rfl⟩ (q2 := 292) (by decide) rfl ?_
            refine x_A k216_90 (fun _ => rfl) ?_
            refine x_iald k216_91 (q := 292) (n := 4) ⟨by decide, rfl⟩ (by decide) ⟨by omega, by omega⟩ ?_
            refine x_rw (e_z10.symm) ?_
            refine x_ic_ne k216_92 (t := 113) rfl ⟨by omega, by omega⟩ ⟨by omega, by omega⟩ (fun c18 => by exfalso; omega) (fun c18 => ?_)
            refine x_A k216_95 (fun _ => rfl) ?_
            refine x_getR k216_96 (f := 59) rfl (q := 256) (n := 62) (kd := 15) ⟨by decide, rfl⟩ (q2 := 292) (by decide) rfl ?_
            refine x_A k216_99 (fun _ => rfl) ?_
            refine x_A k216_100 (fun _ => rfl) ?_
            refine x_iald k216_101 (q := 292) (n := 4) ⟨by decide, rfl⟩ (by decide) ⟨by omega, by omega⟩ ?_
            refine x_rw (e_z10.symm) ?_
            refine x_A k216_102 (fun _ => rfl) ?_
            refine x_iadd k216_103 ?_
            refine x_top (fun z19 e_z19 => ?_)
            refine x_iast k216_104 (q := 292) (n := 4) ⟨by decide, rfl⟩ (by decide) ⟨by omega, by omega⟩ ?_
            refine x_nh (fun s20 e_s20 => ?_)
            have hG_s20 : GI s20 := by rw [e_s20]; exact hG0.up (show 0 ≤ z19 ∧ z19 ≤ 5 from ⟨by omega, by omega⟩)
            have f_s20 : FL [6400, 6464, 6528] s0 s20 := by rw [e_s20]; exact f0.up (show 6400 ∈ [6400, 6464, 6528] from by decide)
            have q21 : s20 256 58 = z1 := by rw [e_s20, x_up_q (by decide)]; exact e_z1.symm
            have q22 : s20 256 1 = z2 := by rw [e_s20, x_up_q (by decide)]; exact e_z2.symm
            have q23 : s20 292 a.toNat = z19 := by rw [e_s20]; exact x_up_same
            refine x_A k216_105 (fun _ => rfl) ?_
            refine x_getR k216_106 (f := 60) rfl (q := 256) (n := 62) (kd := 15) ⟨by decide, rfl⟩ (q2 := 293) (by decide) rfl ?_
            refine x_A k216_109 (fun _ => rfl) ?_
            refine x_A k216_111 (fun _ => rfl) ?_
            refine x_iast k216_112 (q := 293) (n := 20) ⟨by decide, rfl⟩ (by decide) ⟨by omega, by omega⟩ ?_
            refine x_nh (fun s24 e_s24 => ?_)
            have hG_s24 : GI s24 := by rw [e_s24]; exact hG_s20.up (show 0 ≤ 0 ∧ 0 ≤ 3 from ⟨by omega, by omega⟩)
            have f_s24 : FL [6400, 6464, 6528] s0 s24 := by rw [e_s24]; exact f_s20.up (show 6464 ∈ [6400, 6464, 6528] from by decide)
            have q25 : s24 256 58 = z1 := by rw [e_s24, x_up_q (by decide)]; exact q21
            have q26 : s24 256 1 = z2 := by rw [e_s24, x_up_q (by decide)]; exact q22
            have q27 : s24 292 a.toNat = z19 := by rw [e_s24, x_up_q (by omega)]; exact q23
            have q28 : s24 293 z15.toNat = 0 := by rw [e_s24]; exact x_up_same
            refine x_A k216_113 (fun _ => rfl) ?_
            refine x_getR k216_114 (f := 61) rfl (q := 256) (n := 62) (kd := 15) ⟨by decide, rfl⟩ (q2 := 294) (by decide) rfl ?_
            refine x_A k216_117 (fun _ => rfl) ?_
            refine x_A k216_118 (fun _ => rfl) ?_
            refine x_imul k216_120 ?_
            refine x_top (fun z29 e_z29 => ?_)
            refine x_A k216_121 (fun _ => rfl) ?_
            refine x_getR k216_122 (f := 60) rfl (q := 256) (n := 62) (kd := 15) ⟨by decide, rfl⟩ (q2 := 293) (by decide) rfl ?_
            refine x_A k216_125 (fun _ => rfl) ?_
            refine x_iald k216_127 (q := 293) (n := 20) ⟨by decide, rfl⟩ (by decide) ⟨by omega, by omega⟩ ?_
            refine x_rw (q28) ?_
            refine x_iadd k216_128 ?_
            refine x_top (fun z30 e_z30 => ?_)
            refine x_A k216_129 (fun _ => rfl) ?_
            refine x_iast k216_130 (q := 294) (n := 60) ⟨by decide, rfl⟩ (by decide) ⟨by omega, by omega⟩ ?_
            refine x_nh (fun s31 e_s31 => ?_)
            have hG_s31 : GI s31 := by rw [e_s31]; exact hG_s24.up (show 0 ≤ d ∧ d ≤ 39 from ⟨by omega, by omega⟩)
            have f_s31 : FL [6400, 6464, 6528] s0 s31 := by rw [e_s31]; exact f_s24.up (show 6528 ∈ [6400, 6464, 6528] from by decide)
            have q32 : s31 256 58 = z1 := by rw [e_s31, x_up_q (by decide)]; exact q25
            have q33 : s31 256 1 = z2 := by rw [e_s31, x_up_q (by decide)]; exact q26
            have q34 : s31 292 a.toNat = z19 := by rw [e_s31, x_up_q (by omega)]; exact q27
            have q35 : s31 293 z15.toNat = 0 := by rw [e_s31, x_up_q (by omega)]; exact q28
            have q36 : s31 294 z30.toNat = d := by rw [e_s31]; exact x_up_same
            refine x_A k216_131 (fun _ => rfl) ?_
            refine x_getR k216_132 (f := 60) rfl (q := 256) (n := 62) (kd := 15) ⟨by decide, rfl⟩ (q2 := 293) (by decide) rfl ?_
            refine x_A k216_135 (fun _ => rfl) ?_
            refine x_A k216_137 (fun _ => rfl) ?_
            refine x_iald k216_138 (q := 293) (n := 20) ⟨by decide, rfl⟩ (by decide) ⟨by omega, by omega⟩ ?_
            refine x_rw (q35) ?_
            refine x_A k216_139 (fun _ => rfl) ?_
            refine x_iadd k216_140 ?_
            refine x_top (fun z37 e_z37 => ?_)
            refine x_iast k216_141 (q := 293) (n := 20) ⟨by decide, rfl⟩ (by decide) ⟨by omega, by omega⟩ ?_
            refine x_nh (fun s38 e_s38 => ?_)
            have hG_s38 : GI s38 := by rw [e_s38]; exact hG_s31.up (show 0 ≤ z37 ∧ z37 ≤ 3 from ⟨by omega, by omega⟩)
            have f_s38 : FL [6400, 6464, 6528] s0 s38 := by rw [e_s38]; exact f_s31.up (show 6464 ∈ [6400, 6464, 6528] from by decide)
            have q39 : s38 256 58 = z1 := by rw [e_s38, x_up_q (by decide)]; exact q32
            have q40 : s38 256 1 = z2 := by rw [e_s38, x_up_q (by decide)]; exact q33
            have q41 : s38 292 a.toNat = z19 := by rw [e_s38, x_up_q (by omega)]; exact q34
            have q42 : s38 294 z30.toNat = d := by rw [e_s38, x_up_q (by omega)]; exact q36
            have q43 : s38 293 z15.toNat = z37 := by rw [e_s38]; exact x_up_same
            refine x_A k216_142 (fun _ => rfl) ?_
            refine x_getR k216_143 (f := 60) rfl (q := 256) (n := 62) (kd := 15) ⟨by decide, rfl⟩ (q2 := 293) (by decide) rfl ?_
            refine x_A k216_146 (fun _ => rfl) ?_
            refine x_iald k216_148 (q := 293) (n := 20) ⟨by decide, rfl⟩ (by decide) ⟨by omega, by omega⟩ ?_
            refine x_rw (q43) ?_
            exact x_iret k216_149 rfl ⟨hG_s38, f_s38, z37, rfl, ⟨by omega, by omega⟩, ⟨(by unfold MoR; exact Or.inr (Or.inr (Or.inr ⟨by omega, by omega, NF, fun _ => by omega, fun w => by omega, fun j => by rw [e_s38, x_up_q (by decide), e_s31, x_up_q (by decide), e_s24, x_up_q (by decide), e_s20, x_up_at, if_and_t (show b = s0 292 a.toNat by omega), show z19 = b + 1 by omega], fun j => by rw [e_s38, x_up_at, e_s31, x_up_q (by decide), e_s24, x_up_at, e_s20, x_up_q (by decide), if_dup, show z15 = 5 * a + b by omega]⟩))), fun q => by exfalso; omega, fun _ j => by rw [e_s38, x_up_q (by decide), e_s31, x_up_at, e_s24, x_up_q (by decide), e_s20, x_up_q (by decide), show z30 = 3 * (5 * a + b) + (z37 - 1) by omega]⟩⟩
          · skip
            refine x_A k216_70 (fun _ => rfl) ?_
            refine x_getR k216_71 (f := 60) rfl (q := 256) (n := 62) (kd := 15) ⟨by decide, rfl⟩ (q2 := 293) (by decide) rfl ?_
            refine x_A k216_74 (fun _ => rfl) ?_
            refine x_iald k216_76 (q := 293) (n := 20) ⟨by decide, rfl⟩ (by decide) ⟨by omega, by omega⟩ ?_
            refine x_top (fun z44 e_z44 => ?_)
            have g_z44 : (0 : Int) ≤ s0 293 z15.toNat ∧ s0 293 z15.toNat ≤ 3 := hG0 293 z15.toNat
            refine x_A k216_77 (fun _ => rfl) ?_
            refine x_ic_ne k216_78 (t := 85) rfl ⟨by omega, by omega⟩ ⟨by omega, by omega⟩ (fun c45 => ?_) (fun c45 => ?_)
            · skip
              have NF : ¬ (b = 5 ∨ (b < s0 292 a.toNat ∧ s0 293 (5 * a + b).toNat = 3)) := (by rw [← show z15 = 5 * a + b by omega, e_z44.symm]; omega)
              refine x_A k216_85 (fun _ => rfl) ?_
              refine x_A k216_86 (fun _ => rfl) ?_
              refine x_getR k216_87 (f := 59) rfl (q := 256) (n := 62) (kd := 15) ⟨by decide, rfl⟩ (q2 := 292) (by decide) rfl ?_
              refine x_A k216_90 (fun _ => rfl) ?_
              refine x_iald k216_91 (q := 292) (n := 4) ⟨by decide, rfl⟩ (by decide) ⟨by omega, by omega⟩ ?_
              refine x_rw (e_z10.symm) ?_
              refine x_ic_ne k216_92 (t := 113) rfl ⟨by omega, by omega⟩ ⟨by omega, by omega⟩ (fun c46 => ?_) (fun c46 => by exfalso; omega)
              refine x_A k216_113 (fun _ => rfl) ?_
              refine x_getR k216_114 (f := 61) rfl (q := 256) (n := 62) (kd := 15) ⟨by decide, rfl⟩ (q2 := 294) (by decide) rfl ?_
              refine x_A k216_117 (fun _ => rfl) ?_
              refine x_A k216_118 (fun _ => rfl) ?_
              refine x_imul k216_120 ?_
              refine x_top (fun z47 e_z47 => ?_)
              refine x_A k216_121 (fun _ => rfl) ?_
              refine x_getR k216_122 (f := 60) rfl (q := 256) (n := 62) (kd := 15) ⟨by decide, rfl⟩ (q2 := 293) (by decide) rfl ?_
              refine x_A k216_125 (fun _ => rfl) ?_
              refine x_iald k216_127 (q := 293) (n := 20) ⟨by decide, rfl⟩ (by decide) ⟨by omega, by omega⟩ ?_
              refine x_rw (e_z44.symm) ?_
              refine x_iadd k216_128 ?_
              refine x_top (fun z48 e_z48 => ?_)
              refine x_A k216_129 (fun _ => rfl) ?_
              refine x_iast k216_130 (q := 294) (n := 60) ⟨by decide, rfl⟩ (by decide) ⟨by omega, by omega⟩ ?_
              refine x_nh (fun s49 e_s49 => ?_)
              have hG_s49 : GI s49 := by rw [e_s49]; exact hG0.up (show 0 ≤ d ∧ d ≤ 39 from ⟨by omega, by omega⟩)
              have f_s49 : FL [6400, 6464, 6528] s0 s49 := by rw [e_s49]; exact f0.up (show 6528 ∈ [6400, 6464, 6528] from by decide)
              have q50 : s49 256 58 = z1 := by rw [e_s49, x_up_q (by decide)]; exact e_z1.symm
              have q51 : s49 256 1 = z2 := by rw [e_s49, x_up_q (by decide)]; exact e_z2.symm
              have q52 : s49 292 a.toNat = z10 := by rw [e_s49, x_up_q (by omega)]; exact e_z10.symm
              have q53 : s49 293 z15.toNat = z44 := by rw [e_s49, x_up_q (by omega)]; exact e_z44.symm
              have q54 : s49 294 z48.toNat = d := by rw [e_s49]; exact x_up_same
              refine x_A k216_131 (fun _ => rfl) ?_
              refine x_getR k216_132 (f := 60) rfl (q := 256) (n := 62) (kd := 15) ⟨by decide, rfl⟩ (q2 := 293) (by decide) rfl ?_
              refine x_A k216_135 (fun _ => rfl) ?_
              refine x_A k216_137 (fun _ => rfl) ?_
              refine x_iald k216_138 (q := 293) (n := 20) ⟨by decide, rfl⟩ (by decide) ⟨by omega, by omega⟩ ?_
              refine x_rw (q53) ?_
              refine x_A k216_139 (fun _ => rfl) ?_
              refine x_iadd k216_140 ?_
              refine x_top (fun z55 e_z55 => ?_)
              refine x_iast k216_141 (q := 293) (n := 20) ⟨by decide, rfl⟩ (by decide) ⟨by omega, by omega⟩ ?_
              refine x_nh (fun s56 e_s56 => ?_)
              have hG_s56 : GI s56 := by rw [e_s56]; exact hG_s49.up (show 0 ≤ z55 ∧ z55 ≤ 3 from ⟨by omega, by omega⟩)
              have f_s56 : FL [6400, 6464, 6528] s0 s56 := by rw [e_s56]; exact f_s49.up (show 6464 ∈ [6400, 6464, 6528] from by decide)
              have q57 : s56 256 58 = z1 := by rw [e_s56, x_up_q (by decide)]; exact q50
              have q58 : s56 256 1 = z2 := by rw [e_s56, x_up_q (by decide)]; exact q51
              have q59 : s56 292 a.toNat = z10 := by rw [e_s56, x_up_q (by omega)]; exact q52
              have q60 : s56 294 z48.toNat = d := by rw [e_s56, x_up_q (by omega)]; exact q54
              have q61 : s56 293 z15.toNat = z55 := by rw [e_s56]; exact x_up_same
              refine x_A k216_142 (fun _ => rfl) ?_
              refine x_getR k216_143 (f := 60) rfl (q := 256) (n := 62) (kd := 15) ⟨by decide, rfl⟩ (q2 := 293) (by decide) rfl ?_
              refine x_A k216_146 (fun _ => rfl) ?_
              refine x_iald k216_148 (q := 293) (n := 20) ⟨by decide, rfl⟩ (by decide) ⟨by omega, by omega⟩ ?_
              refine x_rw (q61) ?_
              exact x_iret k216_149 rfl ⟨hG_s56, f_s56, z55, rfl, ⟨by omega, by omega⟩, ⟨(by unfold MoR; exact Or.inr (Or.inr (Or.inr ⟨by omega, by omega, NF, fun w => by omega, fun w => by rw [← show z15 = 5 * a + b by omega]; omega, fun j => by rw [e_s56, x_up_q (by decide), e_s49, x_up_q (by decide), if_and_f (show ¬ b = s0 292 a.toNat by omega)], fun j => by rw [e_s56, x_up_at, e_s49, x_up_q (by decide), show z15 = 5 * a + b by omega]⟩))), fun q => by exfalso; omega, fun _ j => by rw [e_s56, x_up_q (by decide), e_s49, x_up_at, show z48 = 3 * (5 * a + b) + (z55 - 1) by omega]⟩⟩
            · skip
              have FUL : (b = 5 ∨ (b < s0 292 a.toNat ∧ s0 293 (5 * a + b).toNat = 3)) := (by rw [← show z15 = 5 * a + b by omega, e_z44.symm]; omega)
              refine x_sipush k216_81 (by decide +kernel) ?_
              exact x_iret k216_84 rfl ⟨hG0, f0, (-1004), rfl, ⟨by omega, by omega⟩, ⟨(by unfold MoR; exact Or.inr (Or.inr (Or.inl ⟨by omega, by omega, (FUL), rfl, rfl, rfl⟩))), fun _ => rfl, fun q => by exfalso; omega⟩⟩
      · rw [e_z11]
        show xe none 216 41 [(0, .ref 256), (1, vi a), (2, vi b), (3, vi d)] [vi 0] s0 0 0 _
        refine x_if_ne k216_41 (t := 48) rfl ⟨by omega, by omega⟩ (fun c62 => by exfalso; omega) (fun c62 => ?_)
        refine x_sipush k216_44 (by decide +kernel) ?_
        exact x_iret k216_47 rfl ⟨hG0, f0, (-1002), rfl, ⟨by omega, by omega⟩, ⟨(by unfold MoR; exact Or.inr (Or.inl ⟨by omega, by omega, rfl, rfl, rfl⟩)), fun _ => rfl, fun q => by exfalso; omega⟩⟩
    · rw [e_z7]
      show xe none 216 21 [(0, .ref 256), (1, vi a), (2, vi b), (3, vi d)] [vi 0] s0 0 0 _
      refine x_if_ne k216_21 (t := 28) rfl ⟨by omega, by omega⟩ (fun c63 => by exfalso; omega) (fun c63 => ?_)
      refine x_sipush k216_24 (by decide +kernel) ?_
      exact x_iret k216_27 rfl ⟨hG0, f0, (-1001), rfl, ⟨by omega, by omega⟩, ⟨(by unfold MoR; exact Or.inl ⟨by omega, rfl, rfl, rfl⟩), fun _ => rfl, fun q => by exfalso; omega⟩⟩
  · rw [e_z4]
    show xe none 216 13 [(0, .ref 256), (1, vi a), (2, vi b), (3, vi d)] [vi 0] s0 0 0 _
    refine x_if_eq k216_13 (t := 24) rfl ⟨by omega, by omega⟩ (fun c64 => ?_) (fun c64 => by exfalso; omega)
    refine x_sipush k216_24 (by decide +kernel) ?_
    exact x_iret k216_27 rfl ⟨hG0, f0, (-1001), rfl, ⟨by omega, by omega⟩, ⟨(by unfold MoR; exact Or.inl ⟨by omega, rfl, rfl, rfl⟩), fun _ => rfl, fun q => by exfalso; omega⟩⟩
