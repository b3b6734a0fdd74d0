set_option maxHeartbeats 8000000 in
theorem E_X2_add_50 (s0 : xS) (hG0 : GI s0) (a : Int) (b_a : 0 ≤ a ∧ a ≤ 39) (b : Int) (b_b : 0 ≤ b ∧ b ≤ 39) (d : Int) (b_d : 0 ≤ d ∧ d ≤ 7) (e : Int) (b_e : 0 ≤ e ∧ e ≤ 63) (g : Int) (b_g : 0 ≤ g ∧ g ≤ 9) (p_50_6 : 0 ≤ s0 50 6 ∧ s0 50 6 ≤ 120) : xe none 25 0 (lv_args 0 [.ref 50, vi a, vi b, vi d, vi e, vi g]) [] s0 0 0 (fun s' v => GI s' ∧ FL [711, 768, 832, 896, 960, 1024, 1152] s0 s' ∧ ∃ z, v = some (vi z) ∧ ((-1004) ≤ z ∧ z ≤ 119) ∧ ((120 ≤ s0 50 6 ∧ z = -1004 ∧ s' 50 6 = s0 50 6 ∧ s' 53 = s0 53 ∧ ∀ r j : Nat, 57 ≤ r → r ≤ 176 → s' r j = s0 r j) ∨ (s0 50 6 < 120 ∧ z = s0 50 6 ∧ s' 50 6 = s0 50 6 + 1 ∧ (∀ j : Nat, s' 53 j = if j = (s0 50 6).toNat then d else s0 53 j) ∧ ∀ r j : Nat, 57 ≤ r → r ≤ 176 → s' r j = if r = 56 + 1 + (s0 50 6).toNat ∧ (j : Int) < 8 then -1 else s0 r j))) := by
  have f0 : FL [711, 768, 832, 896, 960, 1024, 1152] s0 s0 := FL.rf
  show xe none 25 0 [(0, .ref 50), (1, vi a), (2, vi b), (3, vi d), (4, vi e), (5, vi g)] [] s0 0 0 _
  obtain ⟨z1, e_z1⟩ : ∃ z, z = s0 50 6 := ⟨_, rfl⟩
  have g_z1 : (0 : Int) ≤ s0 50 6 ∧ s0 50 6 ≤ 120 := hG0 50 6
  refine x_A k25_0 (fun _ => rfl) ?_
  refine x_getI k25_1 (f := 6) rfl (q := 50) (n := 7) (kd := 6) ⟨by decide, rfl⟩ (by decide) rfl ?_
  refine x_rw (e_z1.symm) ?_
  refine x_istore k25_4 (ls' := [(6, vi z1), (0, .ref 50), (1, vi a), (2, vi b), (3, vi d), (4, vi e), (5, vi g)]) (by decide) rfl ?_
  refine x_A k25_6 (fun _ => rfl) ?_
  refine x_bipush k25_8 (by decide +kernel) ?_
  refine x_ic_lt k25_10 (t := 17) rfl (by first | exact x_rbe e_z1 g_z1 rfl rfl | exact x_rb g_z1 rfl rfl | exact ⟨by omega, by omega⟩) ⟨by decide, by decide⟩ (fun c2 => ?_) (fun c2 => ?_)
  · skip
    refine x_A k25_17 (fun _ => rfl) ?_
    refine x_getR k25_18 (f := 0) rfl (q := 50) (n := 7) (kd := 6) ⟨by decide, rfl⟩ (q2 := 51) (by decide) rfl ?_
    refine x_A k25_21 (fun _ => rfl) ?_
    refine x_A k25_23 (fun _ => rfl) ?_
    refine x_iast k25_24 (q := 51) (n := 120) ⟨by decide, rfl⟩ (by decide) (by first | exact x_rbel e_z1 g_z1 rfl rfl | exact x_rbl g_z1 rfl rfl | exact ⟨by omega, by omega⟩) ?_
    refine x_nh (fun s3 e_s3 => ?_)
    have hG_s3 : GI s3 := by rw [e_s3]; exact hG0.up (show 0 ≤ a ∧ a ≤ 39 from (by first | exact x_rb b_a rfl rfl | exact ⟨by omega, by omega⟩))
    have f_s3 : FL [711, 768, 832, 896, 960, 1024, 1152] s0 s3 := by rw [e_s3]; exact f0.up (show 768 ∈ [711, 768, 832, 896, 960, 1024, 1152] from by decide +kernel)
    have q4 : s3 50 6 = z1 := by rw [e_s3, x_up_q (by decide)]; exact e_z1.symm
    have q5 : s3 51 z1.toNat = a := by rw [e_s3]; exact x_up_same
    refine x_A k25_25 (fun _ => rfl) ?_
    refine x_getR k25_26 (f := 1) rfl (q := 50) (n := 7) (kd := 6) ⟨by decide, rfl⟩ (q2 := 52) (by decide) rfl ?_
    refine x_A k25_29 (fun _ => rfl) ?_
    refine x_A k25_31 (fun _ => rfl) ?_
    refine x_iast k25_32 (q := 52) (n := 120) ⟨by decide, rfl⟩ (by decide) (by first | exact x_rbel e_z1 g_z1 rfl rfl | exact x_rbl g_z1 rfl rfl | exact ⟨by omega, by omega⟩) ?_
    refine x_nh (fun s6 e_s6 => ?_)
    have hG_s6 : GI s6 := by rw [e_s6]; exact hG_s3.up (show 0 ≤ b ∧ b ≤ 39 from (by first | exact x_rb b_b rfl rfl | exact ⟨by omega, by omega⟩))
    have f_s6 : FL [711, 768, 832, 896, 960, 1024, 1152] s0 s6 := by rw [e_s6]; exact f_s3.up (show 832 ∈ [711, 768, 832, 896, 960, 1024, 1152] from by decide +kernel)
    have q7 : s6 50 6 = z1 := by rw [e_s6, x_up_q (by decide)]; exact q4
    have q8 : s6 51 z1.toNat = a := by rw [e_s6, x_up_q (by first | decide | omega)]; exact q5
    have q9 : s6 52 z1.toNat = b := by rw [e_s6]; exact x_up_same
    refine x_A k25_33 (fun _ => rfl) ?_
    refine x_getR k25_34 (f := 2) rfl (q := 50) (n := 7) (kd := 6) ⟨by decide, rfl⟩ (q2 := 53) (by decide) rfl ?_
    refine x_A k25_37 (fun _ => rfl) ?_
    refine x_A k25_39 (fun _ => rfl) ?_
    refine x_iast k25_40 (q := 53) (n := 120) ⟨by decide, rfl⟩ (by decide) (by first | exact x_rbel e_z1 g_z1 rfl rfl | exact x_rbl g_z1 rfl rfl | exact ⟨by omega, by omega⟩) ?_
    refine x_nh (fun s10 e_s10 => ?_)
    have hG_s10 : GI s10 := by rw [e_s10]; exact hG_s6.up (show 0 ≤ d ∧ d ≤ 7 from (by first | exact x_rb b_d rfl rfl | exact ⟨by omega, by omega⟩))
    have f_s10 : FL [711, 768, 832, 896, 960, 1024, 1152] s0 s10 := by rw [e_s10]; exact f_s6.up (show 896 ∈ [711, 768, 832, 896, 960, 1024, 1152] from by decide +kernel)
    have q11 : s10 50 6 = z1 := by rw [e_s10, x_up_q (by decide)]; exact q7
    have q12 : s10 51 z1.toNat = a := by rw [e_s10, x_up_q (by first | decide | omega)]; exact q8
    have q13 : s10 52 z1.toNat = b := by rw [e_s10, x_up_q (by first | decide | omega)]; exact q9
    have q14 : s10 53 z1.toNat = d := by rw [e_s10]; exact x_up_same
    refine x_A k25_41 (fun _ => rfl) ?_
    refine x_getR k25_42 (f := 3) rfl (q := 50) (n := 7) (kd := 6) ⟨by decide, rfl⟩ (q2 := 54) (by decide) rfl ?_
    refine x_A k25_45 (fun _ => rfl) ?_
    refine x_A k25_47 (fun _ => rfl) ?_
    refine x_iast k25_49 (q := 54) (n := 120) ⟨by decide, rfl⟩ (by decide) (by first | exact x_rbel e_z1 g_z1 rfl rfl | exact x_rbl g_z1 rfl rfl | exact ⟨by omega, by omega⟩) ?_
    refine x_nh (fun s15 e_s15 => ?_)
    have hG_s15 : GI s15 := by rw [e_s15]; exact hG_s10.up (show 0 ≤ e ∧ e ≤ 63 from (by first | exact x_rb b_e rfl rfl | exact ⟨by omega, by omega⟩))
    have f_s15 : FL [711, 768, 832, 896, 960, 1024, 1152] s0 s15 := by rw [e_s15]; exact f_s10.up (show 960 ∈ [711, 768, 832, 896, 960, 1024, 1152] from by decide +kernel)
    have q16 : s15 50 6 = z1 := by rw [e_s15, x_up_q (by decide)]; exact q11
    have q17 : s15 51 z1.toNat = a := by rw [e_s15, x_up_q (by first | decide | omega)]; exact q12
    have q18 : s15 52 z1.toNat = b := by rw [e_s15, x_up_q (by first | decide | omega)]; exact q13
    have q19 : s15 53 z1.toNat = d := by rw [e_s15, x_up_q (by first | decide | omega)]; exact q14
    have q20 : s15 54 z1.toNat = e := by rw [e_s15]; exact x_up_same
    refine x_A k25_50 (fun _ => rfl) ?_
    refine x_getR k25_51 (f := 4) rfl (q := 50) (n := 7) (kd := 6) ⟨by decide, rfl⟩ (q2 := 55) (by decide) rfl ?_
    refine x_A k25_54 (fun _ => rfl) ?_
    refine x_A k25_56 (fun _ => rfl) ?_
    refine x_iast k25_58 (q := 55) (n := 120) ⟨by decide, rfl⟩ (by decide) (by first | exact x_rbel e_z1 g_z1 rfl rfl | exact x_rbl g_z1 rfl rfl | exact ⟨by omega, by omega⟩) ?_
    refine x_nh (fun s21 e_s21 => ?_)
    have hG_s21 : GI s21 := by rw [e_s21]; exact hG_s15.up (show 0 ≤ g ∧ g ≤ 9 from (by first | exact x_rb b_g rfl rfl | exact ⟨by omega, by omega⟩))
    have f_s21 : FL [711, 768, 832, 896, 960, 1024, 1152] s0 s21 := by rw [e_s21]; exact f_s15.up (show 1024 ∈ [711, 768, 832, 896, 960, 1024, 1152] from by decide +kernel)
    have q22 : s21 50 6 = z1 := by rw [e_s21, x_up_q (by decide)]; exact q16
    have q23 : s21 51 z1.toNat = a := by rw [e_s21, x_up_q (by first | decide | omega)]; exact q17
    have q24 : s21 52 z1.toNat = b := by rw [e_s21, x_up_q (by first | decide | omega)]; exact q18
    have q25 : s21 53 z1.toNat = d := by rw [e_s21, x_up_q (by first | decide | omega)]; exact q19
    have q26 : s21 54 z1.toNat = e := by rw [e_s21, x_up_q (by first | decide | omega)]; exact q20
    have q27 : s21 55 z1.toNat = g := by rw [e_s21]; exact x_up_same
    refine x_A k25_59 (fun _ => rfl) ?_
    refine x_getR k25_60 (f := 5) rfl (q := 50) (n := 7) (kd := 6) ⟨by decide, rfl⟩ (q2 := 56) (by decide) rfl ?_
    refine x_A k25_63 (fun _ => rfl) ?_
    refine x_aald k25_65 (q := 56) (t := 23) (n := 120) ⟨by decide, rfl⟩ (by decide) (by decide) ⟨by omega, by omega⟩ ?_
    refine x_A k25_66 (fun _ => rfl) ?_
    refine x_callS k25_67 (y := 229) (n := 2) (w0 := 0) (w1 := 2) (as := [.ref (56 + 1 + z1.toNat), vi (-1)]) (rest := []) (by decide +kernel) rfl rfl rfl rfl (xe_mono (E_J7_fill_53178_g57 s21 hG_s21 (56 + 1 + z1.toNat) ⟨by omega, by omega⟩ (-1) ⟨by decide, by decide⟩) ?_)
    rintro s29 v ⟨hG_s29, t_s29, rfl, xp_z28⟩
    have f_s29 : FL [711, 768, 832, 896, 960, 1024, 1152] s0 s29 := f_s21.tr t_s29 (by decide +kernel)
    have q30 : s29 50 6 = z1 := (t_s29 50 6 (show 711 ∉ [1152] from by decide +kernel)).trans q22
    have q31 : s29 51 z1.toNat = a := (t_s29 51 z1.toNat (show 768 ∉ [1152] from by decide +kernel)).trans q23
    have q32 : s29 52 z1.toNat = b := (t_s29 52 z1.toNat (show 832 ∉ [1152] from by decide +kernel)).trans q24
    have q33 : s29 53 z1.toNat = d := (t_s29 53 z1.toNat (show 896 ∉ [1152] from by decide +kernel)).trans q25
    have q34 : s29 54 z1.toNat = e := (t_s29 54 z1.toNat (show 960 ∉ [1152] from by decide +kernel)).trans q26
    have q35 : s29 55 z1.toNat = g := (t_s29 55 z1.toNat (show 1024 ∉ [1152] from by decide +kernel)).trans q27
    show xe none 25 70 [(6, vi z1), (0, .ref 50), (1, vi a), (2, vi b), (3, vi d), (4, vi e), (5, vi g)] [] s29 0 0 _
    refine x_A k25_70 (fun _ => rfl) ?_
    refine x_A k25_71 (fun _ => rfl) ?_
    refine x_getI k25_72 (f := 6) rfl (q := 50) (n := 7) (kd := 6) ⟨by decide, rfl⟩ (by decide) rfl ?_
    refine x_rw (q30) ?_
    refine x_A k25_75 (fun _ => rfl) ?_
    refine x_iadd k25_76 ?_
    refine x_top (fun z36 e_z36 => ?_)
    refine x_putI k25_77 (f := 6) rfl (q := 50) (n := 7) (kd := 6) ⟨by decide, rfl⟩ rfl rfl rfl ?_
    refine x_nh (fun s37 e_s37 => ?_)
    have hG_s37 : GI s37 := by rw [e_s37]; exact hG_s29.up (show 0 ≤ z36 ∧ z36 ≤ 120 from (by first | exact x_rbe e_z36 g_z36 rfl rfl | exact x_rb g_z36 rfl rfl | exact ⟨by omega, by omega⟩))
    have f_s37 : FL [711, 768, 832, 896, 960, 1024, 1152] s0 s37 := by rw [e_s37]; exact f_s29.up (show 711 ∈ [711, 768, 832, 896, 960, 1024, 1152] from by decide +kernel)
    have q38 : s37 50 6 = z36 := by rw [e_s37]; exact x_up_same
    have q39 : s37 51 z1.toNat = a := by rw [e_s37, x_up_q (by first | decide | omega)]; exact q31
    have q40 : s37 52 z1.toNat = b := by rw [e_s37, x_up_q (by first | decide | omega)]; exact q32
    have q41 : s37 53 z1.toNat = d := by rw [e_s37, x_up_q (by first | decide | omega)]; exact q33
    have q42 : s37 54 z1.toNat = e := by rw [e_s37, x_up_q (by first | decide | omega)]; exact q34
    have q43 : s37 55 z1.toNat = g := by rw [e_s37, x_up_q (by first | decide | omega)]; exact q35
    refine x_A k25_80 (fun _ => rfl) ?_
    exact x_iret k25_82 rfl ⟨hG_s37, f_s37, z1, rfl, (by first | exact x_rbe e_z1 g_z1 rfl rfl | exact x_rb g_z1 rfl rfl | exact ⟨by omega, by omega⟩), Or.inr ⟨by omega, by omega, by omega, fun j => by rw [e_s37, x_up_q (by decide), t_s29 53 j (show 896 ∉ _ from by decide), e_s21, x_up_q (by decide), e_s15, x_up_q (by decide), e_s10, x_up_at, e_s6, x_up_q (by decide), e_s3, x_up_q (by decide), show z1 = s0 50 6 by omega], fun r j h1 h2 => by rw [e_s37, x_up_q (by omega), xp_z28 r j h1 h2, e_s21, x_up_q (by omega), e_s15, x_up_q (by omega), e_s10, x_up_q (by omega), e_s6, x_up_q (by omega), e_s3, x_up_q (by omega), show z1 = s0 50 6 by omega]⟩⟩
  · skip
    refine x_sipush k25_13 (by decide +kernel) ?_
    exact x_iret k25_16 rfl ⟨hG0, f0, (-1004), rfl, ⟨by decide, by decide⟩, Or.inl ⟨by omega, rfl, rfl, rfl, fun _ _ _ _ => rfl⟩⟩
set_option maxHeartbeats 8000000 in
theorem E_X10_give_0 (s0 : xS) (hG0 : GI s0) (a : Int) (b_a : (-2147483648) ≤ a ∧ a ≤ 2147483647) (b : Int) (b_b : (-2147483648) ≤ b ∧ b ≤ 2147483647) (d : Int) (b_d : (-2147483648) ≤ d ∧ d ≤ 2147483647) (e : Int) (b_e : (-2147483648) ≤ e ∧ e ≤ 2147483647) (p_50_6 : 0 ≤ s0 50 6 ∧ s0 50 6 ≤ 120) (p_46_3 : 0 ≤ s0 46 3 ∧ s0 46 3 ≤ 40) (p_1_4 : 1 ≤ s0 1 4 ∧ s0 1 4 ≤ 40) : xe none 98 0 (lv_args 0 [.ref 0, vi a, vi b, vi d, vi e]) [] s0 0 0 (fun s' v => GI s' ∧ FL [711, 768, 832, 896, 960, 1024, 1152, 3276, 3277] s0 s' ∧ ∃ z, v = some (vi z) ∧ ((-1004) ≤ z ∧ z ≤ 119) ∧ (GiC s0 s' a b d e z)) := by
  have f0 : FL [711, 768, 832, 896, 960, 1024, 1152, 3276, 3277] s0 s0 := FL.rf
  show xe none 98 0 [(0, .ref 0), (1, vi a), (2, vi b), (3, vi d), (4, vi e)] [] s0 0 0 _
  obtain ⟨z1, e_z1⟩ : ∃ z, z = s0 50 6 := ⟨_, rfl⟩
  have g_z1 : (0 : Int) ≤ s0 50 6 ∧ s0 50 6 ≤ 120 := hG0 50 6
  obtain ⟨z2, e_z2⟩ : ∃ z, z = s0 46 3 := ⟨_, rfl⟩
  have g_z2 : (0 : Int) ≤ s0 46 3 ∧ s0 46 3 ≤ 40 := hG0 46 3
  obtain ⟨z3, e_z3⟩ : ∃ z, z = s0 1 4 := ⟨_, rfl⟩
  have g_z3 : (1 : Int) ≤ s0 1 4 ∧ s0 1 4 ≤ 40 := hG0 1 4
  refine x_A k98_0 (fun _ => rfl) ?_
  refine x_getR k98_1 (f := 1) rfl (q := 0) (n := 12) (kd := 3) ⟨by decide, rfl⟩ (q2 := 46) (by decide) rfl ?_
  refine x_A k98_4 (fun _ => rfl) ?_
  refine x_callV k98_5 (y := 29) (n := 1) (w0 := 0) (w1 := 1) (as := [vi a]) (rest := []) (by decide +kernel) (q := 46) (nq := 4) (kq := 5) ⟨by decide, rfl⟩ rfl rfl rfl rfl (xe_mono (C_X3_has_46 s0 hG0 a (by first | exact x_rb b_a rfl rfl | exact ⟨by omega, by omega⟩)) ?_)
  rintro s5 v ⟨h_s5, z4, rfl, hz_z4⟩
  rw [h_s5]
  rcases hz_z4 with ⟨c_z4, e_z4⟩ | ⟨c_z4, e_z4⟩
  · rw [e_z4]
    show xe none 98 8 [(0, .ref 0), (1, vi a), (2, vi b), (3, vi d), (4, vi e)] [vi 1] s0 0 0 _
    refine x_if_eq k98_8 (t := 22) rfl ⟨by decide, by decide⟩ (fun c6 => by exfalso; omega) (fun c6 => ?_)
    refine x_A k98_11 (fun _ => rfl) ?_
    refine x_getR k98_12 (f := 0) rfl (q := 0) (n := 12) (kd := 3) ⟨by decide, rfl⟩ (q2 := 1) (by decide) rfl ?_
    refine x_A k98_15 (fun _ => rfl) ?_
    refine x_callV k98_16 (y := 59) (n := 1) (w0 := 0) (w1 := 1) (as := [vi b]) (rest := []) (by decide +kernel) (q := 1) (nq := 5) (kq := 4) ⟨by decide, rfl⟩ rfl rfl rfl rfl (xe_mono (C_X7_has_1 s0 hG0 b (by first | exact x_rb b_b rfl rfl | exact ⟨by omega, by omega⟩)) ?_)
    rintro s8 v ⟨h_s8, z7, rfl, hz_z7⟩
    rw [h_s8]
    rcases hz_z7 with ⟨c_z7, e_z7⟩ | ⟨c_z7, e_z7⟩
    · rw [e_z7]
      show xe none 98 19 [(0, .ref 0), (1, vi a), (2, vi b), (3, vi d), (4, vi e)] [vi 1] s0 0 0 _
      refine x_if_ne k98_19 (t := 26) rfl ⟨by decide, by decide⟩ (fun c9 => ?_) (fun c9 => by exfalso; omega)
      refine x_A k98_26 (fun _ => rfl) ?_
      refine x_callS k98_27 (y := 123) (n := 1) (w0 := 0) (w1 := 1) (as := [vi d]) (rest := []) (by decide +kernel) rfl rfl rfl rfl (xe_mono (C_X10_isHand s0 hG0 d (by first | exact x_rb b_d rfl rfl | exact ⟨by omega, by omega⟩)) ?_)
      rintro s11 v ⟨h_s11, z10, rfl, hz_z10⟩
      rw [h_s11]
      rcases hz_z10 with ⟨c_z10, e_z10⟩ | ⟨c_z10, e_z10⟩
      · rw [e_z10]
        show xe none 98 30 [(0, .ref 0), (1, vi a), (2, vi b), (3, vi d), (4, vi e)] [vi 1] s0 0 0 _
        refine x_if_eq k98_30 (t := 44) rfl ⟨by decide, by decide⟩ (fun c12 => by exfalso; omega) (fun c12 => ?_)
        refine x_A k98_33 (fun _ => rfl) ?_
        refine x_A k98_35 (fun _ => rfl) ?_
        refine x_bipush k98_36 (by decide +kernel) ?_
        refine x_callS k98_38 (y := 121) (n := 3) (w0 := 0) (w1 := 3) (as := [vi e, vi 0, vi 63]) (rest := []) (by decide +kernel) rfl rfl rfl rfl (xe_mono (C_X10_isWithin s0 hG0 e (by first | exact x_rb b_e rfl rfl | exact ⟨by omega, by omega⟩) 0 ⟨by decide, by decide⟩ 63 ⟨by decide, by decide⟩) ?_)
        rintro s14 v ⟨h_s14, z13, rfl, hz_z13⟩
        rw [h_s14]
        rcases hz_z13 with ⟨c_z13, e_z13⟩ | ⟨c_z13, e_z13⟩
        · rw [e_z13]
          show xe none 98 41 [(0, .ref 0), (1, vi a), (2, vi b), (3, vi d), (4, vi e)] [vi 1] s0 0 0 _
          refine x_if_ne k98_41 (t := 48) rfl ⟨by decide, by decide⟩ (fun c15 => ?_) (fun c15 => by exfalso; omega)
          refine x_A k98_48 (fun _ => rfl) ?_
          refine x_getR k98_49 (f := 9) rfl (q := 0) (n := 12) (kd := 3) ⟨by decide, rfl⟩ (q2 := 243) (by decide) rfl ?_
          refine x_callV k98_52 (y := 73) (n := 0) (w0 := 0) (w1 := 0) (as := []) (rest := []) (by decide +kernel) (q := 243) (nq := 13) (kq := 13) ⟨by decide, rfl⟩ rfl rfl rfl rfl (xe_mono (C_X8_forget_243 s0 hG0) ?_)
          rintro s17 v ⟨hG_s17, t_s17, rfl⟩
          have f_s17 : FL [711, 768, 832, 896, 960, 1024, 1152, 3276, 3277] s0 s17 := f0.tr t_s17 (by decide +kernel)
          have q18 : s17 50 6 = z1 := (t_s17 50 6 (show 711 ∉ [3276, 3277] from by decide +kernel)).trans e_z1.symm
          have q19 : s17 46 3 = z2 := (t_s17 46 3 (show 452 ∉ [3276, 3277] from by decide +kernel)).trans e_z2.symm
          have q20 : s17 1 4 = z3 := (t_s17 1 4 (show 69 ∉ [3276, 3277] from by decide +kernel)).trans e_z3.symm
          show xe none 98 55 [(0, .ref 0), (1, vi a), (2, vi b), (3, vi d), (4, vi e)] [] s17 0 0 _
          refine x_A k98_55 (fun _ => rfl) ?_
          refine x_getR k98_56 (f := 2) rfl (q := 0) (n := 12) (kd := 3) ⟨by decide, rfl⟩ (q2 := 50) (by decide) rfl ?_
          refine x_A k98_59 (fun _ => rfl) ?_
          refine x_A k98_60 (fun _ => rfl) ?_
          refine x_A k98_61 (fun _ => rfl) ?_
          refine x_A k98_62 (fun _ => rfl) ?_
          refine x_A k98_64 (fun _ => rfl) ?_
          refine x_getI k98_65 (f := 10) rfl (q := 0) (n := 12) (kd := 3) ⟨by decide, rfl⟩ (by decide) rfl ?_
          refine x_top (fun z21 e_z21 => ?_)
          have g_z21 : (0 : Int) ≤ s17 0 10 ∧ s17 0 10 ≤ 9 := hG_s17 0 10
          refine x_callV k98_68 (y := 25) (n := 5) (w0 := 0) (w1 := 5) (as := [vi a, vi b, vi d, vi e, vi z21]) (rest := []) (by decide +kernel) (q := 50) (nq := 7) (kq := 6) ⟨by decide, rfl⟩ rfl rfl rfl rfl (xe_mono (E_X2_add_50 s17 hG_s17 a (by first | exact x_rb b_a rfl rfl | exact ⟨by omega, by omega⟩) b (by first | exact x_rb b_b rfl rfl | exact ⟨by omega, by omega⟩) d (by first | exact x_rb b_d rfl rfl | exact ⟨by omega, by omega⟩) e (by first | exact x_rb b_e rfl rfl | exact ⟨by omega, by omega⟩) z21 (by first | exact x_rbe e_z21 g_z21 rfl rfl | exact x_rb g_z21 rfl rfl | exact ⟨by omega, by omega⟩) ⟨by omega, by omega⟩) ?_)
          rintro s23 v ⟨hG_s23, t_s23, z22, rfl, g_z22, xp_z22⟩
          have f_s23 : FL [711, 768, 832, 896, 960, 1024, 1152, 3276, 3277] s0 s23 := f_s17.tr t_s23 (by decide +kernel)
          have q24 : s23 46 3 = z2 := (t_s23 46 3 (show 452 ∉ [711, 768, 832, 896, 960, 1024, 1152] from by decide +kernel)).trans q19
          have q25 : s23 1 4 = z3 := (t_s23 1 4 (show 69 ∉ [711, 768, 832, 896, 960, 1024, 1152] from by decide +kernel)).trans q20
          have q26 : s23 0 10 = z21 := (t_s23 0 10 (show 11 ∉ [711, 768, 832, 896, 960, 1024, 1152] from by decide +kernel)).trans e_z21.symm
          obtain ⟨z27, e_z27⟩ : ∃ z, z = s23 50 6 := ⟨_, rfl⟩
          have g_z27 : (0 : Int) ≤ s23 50 6 ∧ s23 50 6 ≤ 120 := hG_s23 50 6
          show xe none 98 71 [(0, .ref 0), (1, vi a), (2, vi b), (3, vi d), (4, vi e)] [vi z22] s23 0 0 _
          have FH : s17 53 = s0 53 := funext fun i => t_s17 53 i (show 896 ∉ _ from by decide)
          have FR := rows120 t_s17 (by decide)
          exact x_iret k98_71 rfl ⟨hG_s23, f_s23, z22, rfl, (by first | exact x_rbe e_z22 g_z22 rfl rfl | exact x_rb g_z22 rfl rfl | exact ⟨by omega, by omega⟩), (by unfold GiC; exact xp_z22.elim (fun ⟨u1, u2, u3, u4, u5⟩ => Or.inr (Or.inr (Or.inl ⟨by omega, by omega, by omega, by omega, by omega, u4.trans FH, fun r j h1 h2 => (u5 r j h1 h2).trans (FR r j h1 h2)⟩))) (fun ⟨u1, u2, u3, u4, u5⟩ => Or.inr (Or.inr (Or.inr ⟨by omega, by omega, by omega, by omega, by omega, fun j => by rw [u4, FH, show s17 50 6 = s0 50 6 by omega], fun r j h1 h2 => by rw [u5 r j h1 h2, FR r j h1 h2, show s17 50 6 = s0 50 6 by omega]⟩))))⟩
        · rw [e_z13]
          show xe none 98 41 [(0, .ref 0), (1, vi a), (2, vi b), (3, vi d), (4, vi e)] [vi 0] s0 0 0 _
          refine x_if_ne k98_41 (t := 48) rfl ⟨by decide, by decide⟩ (fun c28 => by exfalso; omega) (fun c28 => ?_)
          refine x_sipush k98_44 (by decide +kernel) ?_
          exact x_iret k98_47 rfl ⟨hG0, f0, (-1002), rfl, ⟨by decide, by decide⟩, (by unfold GiC; exact Or.inr (Or.inl ⟨by omega, by omega, rfl, rfl, rfl, fun _ _ _ _ => rfl⟩))⟩
      · rw [e_z10]
        show xe none 98 30 [(0, .ref 0), (1, vi a), (2, vi b), (3, vi d), (4, vi e)] [vi 0] s0 0 0 _
        refine x_if_eq k98_30 (t := 44) rfl ⟨by decide, by decide⟩ (fun c29 => ?_) (fun c29 => by exfalso; omega)
        refine x_sipush k98_44 (by decide +kernel) ?_
        exact x_iret k98_47 rfl ⟨hG0, f0, (-1002), rfl, ⟨by decide, by decide⟩, (by unfold GiC; exact Or.inr (Or.inl ⟨by omega, by omega, rfl, rfl, rfl, fun _ _ _ _ => rfl⟩))⟩
    · rw [e_z7]
      show xe none 98 19 [(0, .ref 0), (1, vi a), (2, vi b), (3, vi d), (4, vi e)] [vi 0] s0 0 0 _
      refine x_if_ne k98_19 (t := 26) rfl ⟨by decide, by decide⟩ (fun c30 => by exfalso; omega) (fun c30 => ?_)
      refine x_sipush k98_22 (by decide +kernel) ?_
      exact x_iret k98_25 rfl ⟨hG0, f0, (-1001), rfl, ⟨by decide, by decide⟩, (by unfold GiC; exact Or.inl ⟨by omega, rfl, rfl, rfl, fun _ _ _ _ => rfl⟩)⟩
  · rw [e_z4]
    show xe none 98 8 [(0, .ref 0), (1, vi a), (2, vi b), (3, vi d), (4, vi e)] [vi 0] s0 0 0 _
    refine x_if_eq k98_8 (t := 22) rfl ⟨by decide, by decide⟩ (fun c31 => ?_) (fun c31 => by exfalso; omega)
    refine x_sipush k98_22 (by decide +kernel) ?_
    exact x_iret k98_25 rfl ⟨hG0, f0, (-1001), rfl, ⟨by decide, by decide⟩, (by unfold GiC; exact Or.inl ⟨by omega, rfl, rfl, rfl, fun _ _ _ _ => rfl⟩)⟩
set_option maxHeartbeats 8000000 in
theorem L_E_X11_give_256_114 (s0 : xS) (a : Int) (b_a : (-2147483648) ≤ a ∧ a ≤ 2147483647) (b : Int) (b_b : (-2147483648) ≤ b ∧ b ≤ 2147483647) (d : Int) (b_d : (-2147483648) ≤ d ∧ d ≤ 2147483647) (e : Int) (b_e : (-2147483648) ≤ e ∧ e ≤ 2147483647)  : ∀ (n : Nat) (s : xS) (x1 : Int) (x2 : Int) (x3 : Int) (x4 : Int) (x5 : Int) (x1000 : Int) (hG : GI s) (f : FL [4107, 4608, 4672, 4736, 4800, 4864, 4928] s0 s) (b_x1 : 0 ≤ x1 ∧ x1 ≤ 39) (b_x2 : 0 ≤ x2 ∧ x2 ≤ 39) (b_x3 : 0 ≤ x3 ∧ x3 ≤ 7) (b_x4 : 0 ≤ x4 ∧ x4 ≤ 63) (b_x5 : 0 ≤ x5 ∧ x5 ≤ 8) (b_x1000 : 0 ≤ x1000 ∧ x1000 ≤ 119) (w_0 : x1000 = s0 256 10) (w_1 : 0 ≤ a ∧ a < s0 256 6 ∧ 0 ≤ b ∧ b < s0 256 1) (w_2 : 0 ≤ d ∧ d ≤ 7 ∧ 0 ≤ e ∧ e ≤ 63) (w_3 : x1000 < 120) (w_4 : ∀ j : Nat, s 266 j = if j = (s0 256 10).toNat then d else s0 266 j) (w_5 : ∀ j : Nat, s 269 j = if 8 * s0 256 10 ≤ (j : Int) ∧ (j : Int) < 8 * s0 256 10 + x5 then -1 else s0 269 j) (e_x1000 : x1000 = s 256 10)  (hm : (8 - x5) < (n : Int)), xe none 155 114 [(0, .ref 256), (1, vi x1), (2, vi x2), (3, vi x3), (4, vi x4), (5, vi x5)] [] s 0 0 (fun s' v => GI s' ∧ FL [4107, 4608, 4672, 4736, 4800, 4864, 4928] s0 s' ∧ ∃ z, v = some (vi z) ∧ ((-1004) ≤ z ∧ z ≤ 119) ∧ (GiR s0 s' a b d e z)) := by
  intro n
  induction n with
  | zero => intro s x1 x2 x3 x4 x5 x1000 hG f b_x1 b_x2 b_x3 b_x4 b_x5 b_x1000 w_0 w_1 w_2 w_3 w_4 w_5 e_x1000  hm; exfalso; omega
  | succ n ih =>
    intro s x1 x2 x3 x4 x5 x1000 hG f b_x1 b_x2 b_x3 b_x4 b_x5 b_x1000 w_0 w_1 w_2 w_3 w_4 w_5 e_x1000  hm
    refine x_A k155_114 (fun _ => rfl) ?_
    refine x_bipush k155_116 (by decide +kernel) ?_
    refine x_ic_ge k155_118 (t := 143) rfl (by first | exact x_rb b_x5 rfl rfl | exact ⟨by omega, by omega⟩) ⟨by decide, by decide⟩ (fun c519 => ?_) (fun c519 => ?_)
    · skip
      refine x_A k155_143 (fun _ => rfl) ?_
      refine x_A k155_144 (fun _ => rfl) ?_
      refine x_getI k155_145 (f := 10) rfl (q := 256) (n := 62) (kd := 15) ⟨by decide, rfl⟩ (by decide) rfl ?_
      refine x_rw (e_x1000.symm) ?_
      refine x_A k155_148 (fun _ => rfl) ?_
      refine x_iadd k155_149 ?_
      refine x_top (fun z520 e_z520 => ?_)
      refine x_putI k155_150 (f := 10) rfl (q := 256) (n := 62) (kd := 15) ⟨by decide, rfl⟩ rfl rfl rfl ?_
      refine x_nh (fun s521 e_s521 => ?_)
      have hG_s521 : GI s521 := by rw [e_s521]; exact hG.up (show 0 ≤ z520 ∧ z520 ≤ 120 from (by first | exact x_rbe e_z520 g_z520 rfl rfl | exact x_rb g_z520 rfl rfl | exact ⟨by omega, by omega⟩))
      have f_s521 : FL [4107, 4608, 4672, 4736, 4800, 4864, 4928] s0 s521 := by rw [e_s521]; exact f.up (show 4107 ∈ [4107, 4608, 4672, 4736, 4800, 4864, 4928] from by decide +kernel)
      have q522 : s521 256 10 = z520 := by rw [e_s521]; exact x_up_same
      refine x_A k155_153 (fun _ => rfl) ?_
      refine x_getI k155_154 (f := 10) rfl (q := 256) (n := 62) (kd := 15) ⟨by decide, rfl⟩ (by decide) rfl ?_
      refine x_rw (q522) ?_
      refine x_A k155_157 (fun _ => rfl) ?_
      refine x_isub k155_158 ?_
      refine x_top (fun z523 e_z523 => ?_)
      exact x_iret k155_159 rfl ⟨hG_s521, f_s521, z523, rfl, (by first | exact x_rbe e_z523 g_z523 rfl rfl | exact x_rb g_z523 rfl rfl | exact ⟨by omega, by omega⟩), (by unfold GiR; exact Or.inr (Or.inr (Or.inr ⟨by omega, by omega, by omega, by omega, by omega, fun j => by rw [e_s521, x_up_q (by decide)]; exact w_4 j, fun j => by rw [e_s521, x_up_q (by decide), w_5 j, show x5 = 8 by omega]⟩)))⟩
    · skip
      refine x_A k155_121 (fun _ => rfl) ?_
      refine x_getR k155_122 (f := 16) rfl (q := 256) (n := 62) (kd := 15) ⟨by decide, rfl⟩ (q2 := 269) (by decide) rfl ?_
      refine x_bipush k155_125 (by decide +kernel) ?_
      refine x_A k155_127 (fun _ => rfl) ?_
      refine x_getI k155_128 (f := 10) rfl (q := 256) (n := 62) (kd := 15) ⟨by decide, rfl⟩ (by decide) rfl ?_
      refine x_rw (e_x1000.symm) ?_
      refine x_imul k155_131 ?_
      refine x_top (fun z524 e_z524 => ?_)
      refine x_A k155_132 (fun _ => rfl) ?_
      refine x_iadd k155_134 ?_
      refine x_top (fun z525 e_z525 => ?_)
      refine x_A k155_135 (fun _ => rfl) ?_
      refine x_iast k155_136 (q := 269) (n := 960) ⟨by decide, rfl⟩ (by decide) (by first | exact x_rbel e_z525 g_z525 rfl rfl | exact x_rbl g_z525 rfl rfl | exact ⟨by omega, by omega⟩) ?_
      refine x_nh (fun s526 e_s526 => ?_)
      have hG_s526 : GI s526 := by rw [e_s526]; exact hG.up (show (-1) ≤ (-1) ∧ (-1) ≤ 9 from ⟨by decide, by decide⟩)
      have f_s526 : FL [4107, 4608, 4672, 4736, 4800, 4864, 4928] s0 s526 := by rw [e_s526]; exact f.up (show 4928 ∈ [4107, 4608, 4672, 4736, 4800, 4864, 4928] from by decide +kernel)
      have q527 : s526 256 10 = x1000 := by rw [e_s526, x_up_q (by decide)]; exact e_x1000.symm
      have q528 : s526 269 z525.toNat = (-1) := by rw [e_s526]; exact x_up_same
      refine x_iinc k155_137 (ls' := [(5, vi (x5 + 1)), (0, .ref 256), (1, vi x1), (2, vi x2), (3, vi x3), (4, vi x4)]) rfl (by decide) rfl ?_
      refine x_goto k155_140 (t := 114) rfl ?_
      refine x_ls (l := [(0, .ref 256), (1, vi x1), (2, vi x2), (3, vi x3), (4, vi x4), (5, vi (x5 + 1))]) (show ([0, 1, 2, 3, 4, 5] : List Nat).Nodup from by decide +kernel) ⟨rfl, rfl, rfl, rfl, rfl, rfl, trivial⟩ ?_
      exact ih s526 x1 x2 x3 x4 (x5 + 1) x1000 hG_s526 f_s526 (by first | exact x_rb b_x1 rfl rfl | exact ⟨by omega, by omega⟩) (by first | exact x_rb b_x2 rfl rfl | exact ⟨by omega, by omega⟩) (by first | exact x_rb b_x3 rfl rfl | exact ⟨by omega, by omega⟩) (by first | exact x_rb b_x4 rfl rfl | exact ⟨by omega, by omega⟩) ⟨by omega, by omega⟩ (by first | exact x_rb b_x1000 rfl rfl | exact ⟨by omega, by omega⟩) (by omega) (by omega) (by omega) (by omega) (fun j => by rw [e_s526, x_up_q (by decide)]; exact w_4 j) (by rw [e_s526]; exact db_up w_5 (by omega) (by omega)) (q527).symm  (by omega)
set_option maxHeartbeats 8000000 in
theorem E_X11_give_256 (s0 : xS) (hG0 : GI s0) (a : Int) (b_a : (-2147483648) ≤ a ∧ a ≤ 2147483647) (b : Int) (b_b : (-2147483648) ≤ b ∧ b ≤ 2147483647) (d : Int) (b_d : (-2147483648) ≤ d ∧ d ≤ 2147483647) (e : Int) (b_e : (-2147483648) ≤ e ∧ e ≤ 2147483647) (p_256_10 : 0 ≤ s0 256 10 ∧ s0 256 10 ≤ 120) (p_256_6 : 0 ≤ s0 256 6 ∧ s0 256 6 ≤ 40) (p_256_1 : 1 ≤ s0 256 1 ∧ s0 256 1 ≤ 40) : xe none 155 0 (lv_args 0 [.ref 256, vi a, vi b, vi d, vi e]) [] s0 0 0 (fun s' v => GI s' ∧ FL [4107, 4608, 4672, 4736, 4800, 4864, 4928] s0 s' ∧ ∃ z, v = some (vi z) ∧ ((-1004) ≤ z ∧ z ≤ 119) ∧ (GiR s0 s' a b d e z)) := by
  have f0 : FL [4107, 4608, 4672, 4736, 4800, 4864, 4928] s0 s0 := FL.rf
  show xe none 155 0 [(0, .ref 256), (1, vi a), (2, vi b), (3, vi d), (4, vi e)] [] s0 0 0 _
  obtain ⟨z529, e_z529⟩ : ∃ z, z = s0 256 10 := ⟨_, rfl⟩
  have g_z529 : (0 : Int) ≤ s0 256 10 ∧ s0 256 10 ≤ 120 := hG0 256 10
  obtain ⟨z530, e_z530⟩ : ∃ z, z = s0 256 6 := ⟨_, rfl⟩
  have g_z530 : (0 : Int) ≤ s0 256 6 ∧ s0 256 6 ≤ 40 := hG0 256 6
  obtain ⟨z531, e_z531⟩ : ∃ z, z = s0 256 1 := ⟨_, rfl⟩
  have g_z531 : (1 : Int) ≤ s0 256 1 ∧ s0 256 1 ≤ 40 := hG0 256 1
  refine x_A k155_0 (fun _ => rfl) ?_
  refine x_A k155_1 (fun _ => rfl) ?_
  refine x_callV k155_2 (y := 151) (n := 1) (w0 := 0) (w1 := 1) (as := [vi a]) (rest := []) (by decide +kernel) (q := 256) (nq := 62) (kq := 15) ⟨by decide, rfl⟩ rfl rfl rfl rfl (xe_mono (C_X11_isPicture_256 s0 hG0 a (by first | exact x_rb b_a rfl rfl | exact ⟨by omega, by omega⟩)) ?_)
  rintro s533 v ⟨h_s533, z532, rfl, hz_z532⟩
  rw [h_s533]
  rcases hz_z532 with ⟨c_z532, e_z532⟩ | ⟨c_z532, e_z532⟩
  · rw [e_z532]
    show xe none 155 5 [(0, .ref 256), (1, vi a), (2, vi b), (3, vi d), (4, vi e)] [vi 1] s0 0 0 _
    refine x_if_eq k155_5 (t := 16) rfl ⟨by decide, by decide⟩ (fun c534 => by exfalso; omega) (fun c534 => ?_)
    refine x_A k155_8 (fun _ => rfl) ?_
    refine x_A k155_9 (fun _ => rfl) ?_
    refine x_callV k155_10 (y := 137) (n := 1) (w0 := 0) (w1 := 1) (as := [vi b]) (rest := []) (by decide +kernel) (q := 256) (nq := 62) (kq := 15) ⟨by decide, rfl⟩ rfl rfl rfl rfl (xe_mono (C_X11_isMark_256 s0 hG0 b (by first | exact x_rb b_b rfl rfl | exact ⟨by omega, by omega⟩)) ?_)
    rintro s536 v ⟨h_s536, z535, rfl, hz_z535⟩
    rw [h_s536]
    rcases hz_z535 with ⟨c_z535, e_z535⟩ | ⟨c_z535, e_z535⟩
    · rw [e_z535]
      show xe none 155 13 [(0, .ref 256), (1, vi a), (2, vi b), (3, vi d), (4, vi e)] [vi 1] s0 0 0 _
      refine x_if_ne k155_13 (t := 20) rfl ⟨by decide, by decide⟩ (fun c537 => ?_) (fun c537 => by exfalso; omega)
      refine x_A k155_20 (fun _ => rfl) ?_
      refine x_callS k155_21 (y := 153) (n := 1) (w0 := 0) (w1 := 1) (as := [vi d]) (rest := []) (by decide +kernel) rfl rfl rfl rfl (xe_mono (C_X11_isHand s0 hG0 d (by first | exact x_rb b_d rfl rfl | exact ⟨by omega, by omega⟩)) ?_)
      rintro s539 v ⟨h_s539, z538, rfl, hz_z538⟩
      rw [h_s539]
      rcases hz_z538 with ⟨c_z538, e_z538⟩ | ⟨c_z538, e_z538⟩
      · rw [e_z538]
        show xe none 155 24 [(0, .ref 256), (1, vi a), (2, vi b), (3, vi d), (4, vi e)] [vi 1] s0 0 0 _
        refine x_if_eq k155_24 (t := 40) rfl ⟨by decide, by decide⟩ (fun c540 => by exfalso; omega) (fun c540 => ?_)
        refine x_A k155_27 (fun _ => rfl) ?_
        refine x_i2l k155_29 (by first | exact x_rb b_e rfl rfl | exact ⟨by omega, by omega⟩) ?_
        refine x_lconst k155_30 (z := 0) (by decide +kernel) ?_
        refine x_ldc2 k155_31 (z := 63) rfl (by decide +kernel) ?_
        refine x_callS k155_34 (y := 136) (n := 3) (w0 := 0) (w1 := 6) (as := [vj e, vj 0, vj 63]) (rest := []) (by decide +kernel) rfl rfl rfl rfl (xe_mono (C_X11_in s0 hG0 e ⟨by omega, by omega⟩ 0 ⟨by omega, by omega⟩ 63 ⟨by omega, by omega⟩) ?_)
        rintro s542 v ⟨h_s542, z541, rfl, hz_z541⟩
        rw [h_s542]
        rcases hz_z541 with ⟨c_z541, e_z541⟩ | ⟨c_z541, e_z541⟩
        · rw [e_z541]
          show xe none 155 37 [(0, .ref 256), (1, vi a), (2, vi b), (3, vi d), (4, vi e)] [vi 1] s0 0 0 _
          refine x_if_ne k155_37 (t := 44) rfl ⟨by decide, by decide⟩ (fun c543 => ?_) (fun c543 => by exfalso; omega)
          refine x_A k155_44 (fun _ => rfl) ?_
          refine x_getI k155_45 (f := 10) rfl (q := 256) (n := 62) (kd := 15) ⟨by decide, rfl⟩ (by decide) rfl ?_
          refine x_rw (e_z529.symm) ?_
          refine x_bipush k155_48 (by decide +kernel) ?_
          refine x_ic_ne k155_50 (t := 57) rfl (by first | exact x_rbe e_z529 g_z529 rfl rfl | exact x_rb g_z529 rfl rfl | exact ⟨by omega, by omega⟩) ⟨by decide, by decide⟩ (fun c544 => ?_) (fun c544 => ?_)
          · skip
            refine x_A k155_57 (fun _ => rfl) ?_
            refine x_getR k155_58 (f := 11) rfl (q := 256) (n := 62) (kd := 15) ⟨by decide, rfl⟩ (q2 := 264) (by decide) rfl ?_
            refine x_A k155_61 (fun _ => rfl) ?_
            refine x_getI k155_62 (f := 10) rfl (q := 256) (n := 62) (kd := 15) ⟨by decide, rfl⟩ (by decide) rfl ?_
            refine x_rw (e_z529.symm) ?_
            refine x_A k155_65 (fun _ => rfl) ?_
            refine x_iast k155_66 (q := 264) (n := 120) ⟨by decide, rfl⟩ (by decide) (by first | exact x_rbel e_z529 g_z529 rfl rfl | exact x_rbl g_z529 rfl rfl | exact ⟨by omega, by omega⟩) ?_
            refine x_nh (fun s545 e_s545 => ?_)
            have hG_s545 : GI s545 := by rw [e_s545]; exact hG0.up (show 0 ≤ a ∧ a ≤ 39 from (by first | exact x_rb b_a rfl rfl | exact ⟨by omega, by omega⟩))
            have f_s545 : FL [4107, 4608, 4672, 4736, 4800, 4864, 4928] s0 s545 := by rw [e_s545]; exact f0.up (show 4608 ∈ [4107, 4608, 4672, 4736, 4800, 4864, 4928] from by decide +kernel)
            have q546 : s545 256 10 = z529 := by rw [e_s545, x_up_q (by decide)]; exact e_z529.symm
            have q547 : s545 256 6 = z530 := by rw [e_s545, x_up_q (by decide)]; exact e_z530.symm
            have q548 : s545 256 1 = z531 := by rw [e_s545, x_up_q (by decide)]; exact e_z531.symm
            have q549 : s545 264 z529.toNat = a := by rw [e_s545]; exact x_up_same
            refine x_A k155_67 (fun _ => rfl) ?_
            refine x_getR k155_68 (f := 12) rfl (q := 256) (n := 62) (kd := 15) ⟨by decide, rfl⟩ (q2 := 265) (by decide) rfl ?_
            refine x_A k155_71 (fun _ => rfl) ?_
            refine x_getI k155_72 (f := 10) rfl (q := 256) (n := 62) (kd := 15) ⟨by decide, rfl⟩ (by decide) rfl ?_
            refine x_rw (q546) ?_
            refine x_A k155_75 (fun _ => rfl) ?_
            refine x_iast k155_76 (q := 265) (n := 120) ⟨by decide, rfl⟩ (by decide) (by first | exact x_rbel e_z529 g_z529 rfl rfl | exact x_rbl g_z529 rfl rfl | exact ⟨by omega, by omega⟩) ?_
            refine x_nh (fun s550 e_s550 => ?_)
            have hG_s550 : GI s550 := by rw [e_s550]; exact hG_s545.up (show 0 ≤ b ∧ b ≤ 39 from (by first | exact x_rb b_b rfl rfl | exact ⟨by omega, by omega⟩))
            have f_s550 : FL [4107, 4608, 4672, 4736, 4800, 4864, 4928] s0 s550 := by rw [e_s550]; exact f_s545.up (show 4672 ∈ [4107, 4608, 4672, 4736, 4800, 4864, 4928] from by decide +kernel)
            have q551 : s550 256 10 = z529 := by rw [e_s550, x_up_q (by decide)]; exact q546
            have q552 : s550 256 6 = z530 := by rw [e_s550, x_up_q (by decide)]; exact q547
            have q553 : s550 256 1 = z531 := by rw [e_s550, x_up_q (by decide)]; exact q548
            have q554 : s550 264 z529.toNat = a := by rw [e_s550, x_up_q (by first | decide | omega)]; exact q549
            have q555 : s550 265 z529.toNat = b := by rw [e_s550]; exact x_up_same
            refine x_A k155_77 (fun _ => rfl) ?_
            refine x_getR k155_78 (f := 13) rfl (q := 256) (n := 62) (kd := 15) ⟨by decide, rfl⟩ (q2 := 266) (by decide) rfl ?_
            refine x_A k155_81 (fun _ => rfl) ?_
            refine x_getI k155_82 (f := 10) rfl (q := 256) (n := 62) (kd := 15) ⟨by decide, rfl⟩ (by decide) rfl ?_
            refine x_rw (q551) ?_
            refine x_A k155_85 (fun _ => rfl) ?_
            refine x_iast k155_86 (q := 266) (n := 120) ⟨by decide, rfl⟩ (by decide) (by first | exact x_rbel e_z529 g_z529 rfl rfl | exact x_rbl g_z529 rfl rfl | exact ⟨by omega, by omega⟩) ?_
            refine x_nh (fun s556 e_s556 => ?_)
            have hG_s556 : GI s556 := by rw [e_s556]; exact hG_s550.up (show 0 ≤ d ∧ d ≤ 7 from (by first | exact x_rb b_d rfl rfl | exact ⟨by omega, by omega⟩))
            have f_s556 : FL [4107, 4608, 4672, 4736, 4800, 4864, 4928] s0 s556 := by rw [e_s556]; exact f_s550.up (show 4736 ∈ [4107, 4608, 4672, 4736, 4800, 4864, 4928] from by decide +kernel)
            have q557 : s556 256 10 = z529 := by rw [e_s556, x_up_q (by decide)]; exact q551
            have q558 : s556 256 6 = z530 := by rw [e_s556, x_up_q (by decide)]; exact q552
            have q559 : s556 256 1 = z531 := by rw [e_s556, x_up_q (by decide)]; exact q553
            have q560 : s556 264 z529.toNat = a := by rw [e_s556, x_up_q (by first | decide | omega)]; exact q554
            have q561 : s556 265 z529.toNat = b := by rw [e_s556, x_up_q (by first | decide | omega)]; exact q555
            have q562 : s556 266 z529.toNat = d := by rw [e_s556]; exact x_up_same
            refine x_A k155_87 (fun _ => rfl) ?_
            refine x_getR k155_88 (f := 14) rfl (q := 256) (n := 62) (kd := 15) ⟨by decide, rfl⟩ (q2 := 267) (by decide) rfl ?_
            refine x_A k155_91 (fun _ => rfl) ?_
            refine x_getI k155_92 (f := 10) rfl (q := 256) (n := 62) (kd := 15) ⟨by decide, rfl⟩ (by decide) rfl ?_
            refine x_rw (q557) ?_
            refine x_A k155_95 (fun _ => rfl) ?_
            refine x_iast k155_97 (q := 267) (n := 120) ⟨by decide, rfl⟩ (by decide) (by first | exact x_rbel e_z529 g_z529 rfl rfl | exact x_rbl g_z529 rfl rfl | exact ⟨by omega, by omega⟩) ?_
            refine x_nh (fun s563 e_s563 => ?_)
            have hG_s563 : GI s563 := by rw [e_s563]; exact hG_s556.up (show 0 ≤ e ∧ e ≤ 63 from (by first | exact x_rb b_e rfl rfl | exact ⟨by omega, by omega⟩))
            have f_s563 : FL [4107, 4608, 4672, 4736, 4800, 4864, 4928] s0 s563 := by rw [e_s563]; exact f_s556.up (show 4800 ∈ [4107, 4608, 4672, 4736, 4800, 4864, 4928] from by decide +kernel)
            have q564 : s563 256 10 = z529 := by rw [e_s563, x_up_q (by decide)]; exact q557
            have q565 : s563 256 6 = z530 := by rw [e_s563, x_up_q (by decide)]; exact q558
            have q566 : s563 256 1 = z531 := by rw [e_s563, x_up_q (by decide)]; exact q559
            have q567 : s563 264 z529.toNat = a := by rw [e_s563, x_up_q (by first | decide | omega)]; exact q560
            have q568 : s563 265 z529.toNat = b := by rw [e_s563, x_up_q (by first | decide | omega)]; exact q561
            have q569 : s563 266 z529.toNat = d := by rw [e_s563, x_up_q (by first | decide | omega)]; exact q562
            have q570 : s563 267 z529.toNat = e := by rw [e_s563]; exact x_up_same
            refine x_A k155_98 (fun _ => rfl) ?_
            refine x_getR k155_99 (f := 15) rfl (q := 256) (n := 62) (kd := 15) ⟨by decide, rfl⟩ (q2 := 268) (by decide) rfl ?_
            refine x_A k155_102 (fun _ => rfl) ?_
            refine x_getI k155_103 (f := 10) rfl (q := 256) (n := 62) (kd := 15) ⟨by decide, rfl⟩ (by decide) rfl ?_
            refine x_rw (q564) ?_
            refine x_A k155_106 (fun _ => rfl) ?_
            refine x_getI k155_107 (f := 0) rfl (q := 256) (n := 62) (kd := 15) ⟨by decide, rfl⟩ (by decide) rfl ?_
            refine x_top (fun z571 e_z571 => ?_)
            have g_z571 : (0 : Int) ≤ s563 256 0 ∧ s563 256 0 ≤ 9 := hG_s563 256 0
            refine x_iast k155_110 (q := 268) (n := 120) ⟨by decide, rfl⟩ (by decide) (by first | exact x_rbel e_z529 g_z529 rfl rfl | exact x_rbl g_z529 rfl rfl | exact ⟨by omega, by omega⟩) ?_
            refine x_nh (fun s572 e_s572 => ?_)
            have hG_s572 : GI s572 := by rw [e_s572]; exact hG_s563.up (show 0 ≤ z571 ∧ z571 ≤ 9 from (by first | exact x_rbe e_z571 g_z571 rfl rfl | exact x_rb g_z571 rfl rfl | exact ⟨by omega, by omega⟩))
            have f_s572 : FL [4107, 4608, 4672, 4736, 4800, 4864, 4928] s0 s572 := by rw [e_s572]; exact f_s563.up (show 4864 ∈ [4107, 4608, 4672, 4736, 4800, 4864, 4928] from by decide +kernel)
            have q573 : s572 256 10 = z529 := by rw [e_s572, x_up_q (by decide)]; exact q564
            have q574 : s572 256 6 = z530 := by rw [e_s572, x_up_q (by decide)]; exact q565
            have q575 : s572 256 1 = z531 := by rw [e_s572, x_up_q (by decide)]; exact q566
            have q576 : s572 256 0 = z571 := by rw [e_s572, x_up_q (by decide)]; exact e_z571.symm
            have q577 : s572 264 z529.toNat = a := by rw [e_s572, x_up_q (by first | decide | omega)]; exact q567
            have q578 : s572 265 z529.toNat = b := by rw [e_s572, x_up_q (by first | decide | omega)]; exact q568
            have q579 : s572 266 z529.toNat = d := by rw [e_s572, x_up_q (by first | decide | omega)]; exact q569
            have q580 : s572 267 z529.toNat = e := by rw [e_s572, x_up_q (by first | decide | omega)]; exact q570
            have q581 : s572 268 z529.toNat = z571 := by rw [e_s572]; exact x_up_same
            refine x_A k155_111 (fun _ => rfl) ?_
            refine x_istore k155_112 (ls' := [(5, vi 0), (0, .ref 256), (1, vi a), (2, vi b), (3, vi d), (4, vi e)]) (by decide) rfl ?_
            refine x_ls (l := [(0, .ref 256), (1, vi a), (2, vi b), (3, vi d), (4, vi e), (5, vi 0)]) (show ([0, 1, 2, 3, 4, 5] : List Nat).Nodup from by decide +kernel) ⟨rfl, rfl, rfl, rfl, rfl, rfl, trivial⟩ ?_
            exact L_E_X11_give_256_114 s0 a b_a b b_b d b_d e b_e  (((8 - 0) + 1 : Int)).toNat s572 a b d e 0 z529 hG_s572 f_s572 (by first | exact x_rb b_a rfl rfl | exact ⟨by omega, by omega⟩) (by first | exact x_rb b_b rfl rfl | exact ⟨by omega, by omega⟩) (by first | exact x_rb b_d rfl rfl | exact ⟨by omega, by omega⟩) (by first | exact x_rb b_e rfl rfl | exact ⟨by omega, by omega⟩) ⟨by decide, by decide⟩ (by first | exact x_rbe e_z529 g_z529 rfl rfl | exact x_rb g_z529 rfl rfl | exact ⟨by omega, by omega⟩) (by omega) (by omega) (by omega) (by omega) (fun j => by rw [e_s572, x_up_q (by decide), e_s563, x_up_q (by decide), e_s556, x_up_at, e_s550, x_up_q (by decide), e_s545, x_up_q (by decide), show z529 = s0 256 10 by omega]) (fun j => by rw [if_neg (by omega), e_s572, x_up_q (by decide), e_s563, x_up_q (by decide), e_s556, x_up_q (by decide), e_s550, x_up_q (by decide), e_s545, x_up_q (by decide)]) (q573).symm  (by omega)
          · skip
            refine x_sipush k155_53 (by decide +kernel) ?_
            exact x_iret k155_56 rfl ⟨hG0, f0, (-1004), rfl, ⟨by decide, by decide⟩, (by unfold GiR; exact Or.inr (Or.inr (Or.inl ⟨by omega, by omega, by omega, rfl, rfl, rfl, rfl⟩)))⟩
        · rw [e_z541]
          show xe none 155 37 [(0, .ref 256), (1, vi a), (2, vi b), (3, vi d), (4, vi e)] [vi 0] s0 0 0 _
          refine x_if_ne k155_37 (t := 44) rfl ⟨by decide, by decide⟩ (fun c582 => by exfalso; omega) (fun c582 => ?_)
          refine x_sipush k155_40 (by decide +kernel) ?_
          exact x_iret k155_43 rfl ⟨hG0, f0, (-1002), rfl, ⟨by decide, by decide⟩, (by unfold GiR; exact Or.inr (Or.inl ⟨by omega, by omega, rfl, rfl, rfl, rfl⟩))⟩
      · rw [e_z538]
        show xe none 155 24 [(0, .ref 256), (1, vi a), (2, vi b), (3, vi d), (4, vi e)] [vi 0] s0 0 0 _
        refine x_if_eq k155_24 (t := 40) rfl ⟨by decide, by decide⟩ (fun c583 => ?_) (fun c583 => by exfalso; omega)
        refine x_sipush k155_40 (by decide +kernel) ?_
        exact x_iret k155_43 rfl ⟨hG0, f0, (-1002), rfl, ⟨by decide, by decide⟩, (by unfold GiR; exact Or.inr (Or.inl ⟨by omega, by omega, rfl, rfl, rfl, rfl⟩))⟩
    · rw [e_z535]
      show xe none 155 13 [(0, .ref 256), (1, vi a), (2, vi b), (3, vi d), (4, vi e)] [vi 0] s0 0 0 _
      refine x_if_ne k155_13 (t := 20) rfl ⟨by decide, by decide⟩ (fun c584 => by exfalso; omega) (fun c584 => ?_)
      refine x_sipush k155_16 (by decide +kernel) ?_
      exact x_iret k155_19 rfl ⟨hG0, f0, (-1001), rfl, ⟨by decide, by decide⟩, (by unfold GiR; exact Or.inl ⟨by omega, rfl, rfl, rfl, rfl⟩)⟩
  · rw [e_z532]
    show xe none 155 5 [(0, .ref 256), (1, vi a), (2, vi b), (3, vi d), (4, vi e)] [vi 0] s0 0 0 _
    refine x_if_eq k155_5 (t := 16) rfl ⟨by decide, by decide⟩ (fun c585 => ?_) (fun c585 => by exfalso; omega)
    refine x_sipush k155_16 (by decide +kernel) ?_
    exact x_iret k155_19 rfl ⟨hG0, f0, (-1001), rfl, ⟨by decide, by decide⟩, (by unfold GiR; exact Or.inl ⟨by omega, rfl, rfl, rfl, rfl⟩)⟩
set_option maxHeartbeats 8000000 in
theorem L_E_X2_doubters_50_15 (s0 : xS) (a : Int) (b_a : (-2147483648) ≤ a ∧ a ≤ 2147483647) (b : Int) (b_b : (-2147483648) ≤ b ∧ b ≤ 2147483647)  : ∀ (n : Nat) (s : xS) (x1 : Int) (x2 : Int) (x3 : Int) (x4 : Int) (hG : GI s) (f : FL [] s0 s) (b_x1 : 0 ≤ x1 ∧ x1 ≤ 119) (b_x2 : (-2147483648) ≤ x2 ∧ x2 ≤ 2147483647) (b_x3 : 0 ≤ x3 ∧ x3 ≤ 9) (b_x4 : 0 ≤ x4 ∧ x4 ≤ 8) (r_3_4 : x3 ≤ x4 + 0) (w_0 : x1 = a) (w_1 : x2 = b) (w_2 : 0 ≤ a ∧ a < s0 50 6) (w_3 : x3 = dcn (fun h => s0 (56 + 1 + a.toNat) h.toNat) b x4.toNat)  (hm : (8 - x4) < (n : Int)), xe none 26 15 [(0, .ref 50), (1, vi x1), (2, vi x2), (3, vi x3), (4, vi x4)] [] s 0 0 (fun s' v => GI s' ∧ FL [] s0 s' ∧ ∃ z, v = some (vi z) ∧ (0 ≤ z ∧ z ≤ 8) ∧ ((¬ (0 ≤ a ∧ a < s0 50 6) ∧ z = 0) ∨ ((0 ≤ a ∧ a < s0 50 6) ∧ z = dcn (fun h => s0 (56 + 1 + a.toNat) h.toNat) b 8))) := by
  intro n
  induction n with
  | zero => intro s x1 x2 x3 x4 hG f b_x1 b_x2 b_x3 b_x4 r_3_4 w_0 w_1 w_2 w_3  hm; exfalso; omega
  | succ n ih =>
    intro s x1 x2 x3 x4 hG f b_x1 b_x2 b_x3 b_x4 r_3_4 w_0 w_1 w_2 w_3  hm
    refine x_A k26_15 (fun _ => rfl) ?_
    refine x_bipush k26_17 (by decide +kernel) ?_
    refine x_ic_ge k26_19 (t := 57) rfl (by first | exact x_rb b_x4 rfl rfl | exact ⟨by omega, by omega⟩) ⟨by decide, by decide⟩ (fun c86 => ?_) (fun c86 => ?_)
    · skip
      refine x_A k26_57 (fun _ => rfl) ?_
      exact x_iret k26_58 rfl ⟨hG, f, x3, rfl, (by first | exact x_rb b_x3 rfl rfl | exact ⟨by omega, by omega⟩), Or.inr ⟨by omega, by rw [show x4 = 8 by omega] at w_3; exact w_3⟩⟩
    · skip
      refine x_A k26_22 (fun _ => rfl) ?_
      refine x_getR k26_23 (f := 5) rfl (q := 50) (n := 7) (kd := 6) ⟨by decide, rfl⟩ (q2 := 56) (by decide) rfl ?_
      refine x_A k26_26 (fun _ => rfl) ?_
      refine x_aald k26_27 (q := 56) (t := 23) (n := 120) ⟨by decide, rfl⟩ (by decide) (by decide) ⟨by omega, by omega⟩ ?_
      refine x_A k26_28 (fun _ => rfl) ?_
      refine x_iald k26_30 (q := (56 + 1 + x1.toNat)) (n := 8) (xg_57 (by omega) (by omega)) (by decide) (by first | exact x_rbl b_x4 rfl rfl | exact ⟨by omega, by omega⟩) ?_
      refine x_top (fun z87 e_z87 => ?_)
      have r_z87 := hG (56 + 1 + x1.toNat) x4.toNat
      rw [(gr_57 x4.toNat (show 57 ≤ (56 + 1 + x1.toNat) by omega) (by omega)).1, (gr_57 x4.toNat (show 57 ≤ (56 + 1 + x1.toNat) by omega) (by omega)).2.1, ← e_z87] at r_z87
      have dz := dcn_s (fun h => s0 (56 + 1 + a.toNat) h.toNat) b (k := x4) (z := z87) (by omega) (by rw [← f.nil, ← show x1 = a by omega]; exact e_z87.symm)
      refine x_A k26_31 (fun _ => rfl) ?_
      refine x_ic_eq k26_32 (t := 51) rfl (by first | exact x_rbe e_z87 g_z87 rfl rfl | exact x_rb g_z87 rfl rfl | exact ⟨by omega, by omega⟩) ⟨by decide, by decide⟩ (fun c88 => ?_) (fun c88 => ?_)
      · skip
        refine x_iinc k26_51 (ls' := [(4, vi (x4 + 1)), (0, .ref 50), (1, vi x1), (2, vi x2), (3, vi x3)]) rfl (by decide) rfl ?_
        refine x_goto k26_54 (t := 15) rfl ?_
        refine x_ls (l := [(0, .ref 50), (1, vi x1), (2, vi x2), (3, vi x3), (4, vi (x4 + 1))]) (show ([0, 1, 2, 3, 4] : List Nat).Nodup from by decide +kernel) ⟨rfl, rfl, rfl, rfl, rfl, trivial⟩ ?_
        exact ih s x1 x2 x3 (x4 + 1) hG f (by first | exact x_rb b_x1 rfl rfl | exact ⟨by omega, by omega⟩) (by first | exact x_rb b_x2 rfl rfl | exact ⟨by omega, by omega⟩) (by first | exact x_rb b_x3 rfl rfl | exact ⟨by omega, by omega⟩) ⟨by omega, by omega⟩ (by omega) (by omega) (by omega) (by omega) (by omega)  (by omega)
      · skip
        refine x_A k26_35 (fun _ => rfl) ?_
        refine x_getR k26_36 (f := 5) rfl (q := 50) (n := 7) (kd := 6) ⟨by decide, rfl⟩ (q2 := 56) (by decide) rfl ?_
        refine x_A k26_39 (fun _ => rfl) ?_
        refine x_aald k26_40 (q := 56) (t := 23) (n := 120) ⟨by decide, rfl⟩ (by decide) (by decide) ⟨by omega, by omega⟩ ?_
        refine x_A k26_41 (fun _ => rfl) ?_
        refine x_iald k26_43 (q := (56 + 1 + x1.toNat)) (n := 8) (xg_57 (by omega) (by omega)) (by decide) (by first | exact x_rbl b_x4 rfl rfl | exact ⟨by omega, by omega⟩) ?_
        refine x_rw (e_z87.symm) ?_
        refine x_A k26_44 (fun _ => rfl) ?_
        refine x_ic_gt k26_45 (t := 51) rfl (by first | exact x_rbe e_z87 g_z87 rfl rfl | exact x_rb g_z87 rfl rfl | exact ⟨by omega, by omega⟩) (by first | exact x_rb b_x2 rfl rfl | exact ⟨by omega, by omega⟩) (fun c89 => ?_) (fun c89 => ?_)
        · skip
          refine x_iinc k26_51 (ls' := [(4, vi (x4 + 1)), (0, .ref 50), (1, vi x1), (2, vi x2), (3, vi x3)]) rfl (by decide) rfl ?_
          refine x_goto k26_54 (t := 15) rfl ?_
          refine x_ls (l := [(0, .ref 50), (1, vi x1), (2, vi x2), (3, vi x3), (4, vi (x4 + 1))]) (show ([0, 1, 2, 3, 4] : List Nat).Nodup from by decide +kernel) ⟨rfl, rfl, rfl, rfl, rfl, trivial⟩ ?_
          exact ih s x1 x2 x3 (x4 + 1) hG f (by first | exact x_rb b_x1 rfl rfl | exact ⟨by omega, by omega⟩) (by first | exact x_rb b_x2 rfl rfl | exact ⟨by omega, by omega⟩) (by first | exact x_rb b_x3 rfl rfl | exact ⟨by omega, by omega⟩) ⟨by omega, by omega⟩ (by omega) (by omega) (by omega) (by omega) (by omega)  (by omega)
        · skip
          refine x_iinc k26_48 (ls' := [(3, vi (x3 + 1)), (0, .ref 50), (1, vi x1), (2, vi x2), (4, vi x4)]) rfl (by decide) rfl ?_
          refine x_iinc k26_51 (ls' := [(4, vi (x4 + 1)), (3, vi (x3 + 1)), (0, .ref 50), (1, vi x1), (2, vi x2)]) rfl (by decide) rfl ?_
          refine x_goto k26_54 (t := 15) rfl ?_
          refine x_ls (l := [(0, .ref 50), (1, vi x1), (2, vi x2), (3, vi (x3 + 1)), (4, vi (x4 + 1))]) (show ([0, 1, 2, 3, 4] : List Nat).Nodup from by decide +kernel) ⟨rfl, rfl, rfl, rfl, rfl, trivial⟩ ?_
          exact ih s x1 x2 (x3 + 1) (x4 + 1) hG f (by first | exact x_rb b_x1 rfl rfl | exact ⟨by omega, by omega⟩) (by first | exact x_rb b_x2 rfl rfl | exact ⟨by omega, by omega⟩) ⟨by omega, by omega⟩ ⟨by omega, by omega⟩ (by omega) (by omega) (by omega) (by omega) (by omega)  (by omega)
set_option maxHeartbeats 8000000 in
theorem E_X2_doubters_50 (s0 : xS) (hG0 : GI s0) (a : Int) (b_a : (-2147483648) ≤ a ∧ a ≤ 2147483647) (b : Int) (b_b : (-2147483648) ≤ b ∧ b ≤ 2147483647) (p_50_6 : 0 ≤ s0 50 6 ∧ s0 50 6 ≤ 120) : xe none 26 0 (lv_args 0 [.ref 50, vi a, vi b]) [] s0 0 0 (fun s' v => GI s' ∧ FL [] s0 s' ∧ ∃ z, v = some (vi z) ∧ (0 ≤ z ∧ z ≤ 8) ∧ ((¬ (0 ≤ a ∧ a < s0 50 6) ∧ z = 0) ∨ ((0 ≤ a ∧ a < s0 50 6) ∧ z = dcn (fun h => s0 (56 + 1 + a.toNat) h.toNat) b 8))) := by
  have f0 : FL [] s0 s0 := FL.rf
  show xe none 26 0 [(0, .ref 50), (1, vi a), (2, vi b)] [] s0 0 0 _
  obtain ⟨z90, e_z90⟩ : ∃ z, z = s0 50 6 := ⟨_, rfl⟩
  have g_z90 : (0 : Int) ≤ s0 50 6 ∧ s0 50 6 ≤ 120 := hG0 50 6
  refine x_A k26_0 (fun _ => rfl) ?_
  refine x_A k26_1 (fun _ => rfl) ?_
  refine x_callV k26_2 (y := 24) (n := 1) (w0 := 0) (w1 := 1) (as := [vi a]) (rest := []) (by decide +kernel) (q := 50) (nq := 7) (kq := 6) ⟨by decide, rfl⟩ rfl rfl rfl rfl (xe_mono (C_X2_has_50 s0 hG0 a (by first | exact x_rb b_a rfl rfl | exact ⟨by omega, by omega⟩)) ?_)
  rintro s92 v ⟨h_s92, z91, rfl, hz_z91⟩
  rw [h_s92]
  rcases hz_z91 with ⟨c_z91, e_z91⟩ | ⟨c_z91, e_z91⟩
  · rw [e_z91]
    show xe none 26 5 [(0, .ref 50), (1, vi a), (2, vi b)] [vi 1] s0 0 0 _
    refine x_if_ne k26_5 (t := 10) rfl ⟨by decide, by decide⟩ (fun c93 => ?_) (fun c93 => by exfalso; omega)
    refine x_A k26_10 (fun _ => rfl) ?_
    refine x_istore_n k26_11 (ls' := [(3, vi 0), (0, .ref 50), (1, vi a), (2, vi b)]) (by decide) rfl ?_
    refine x_A k26_12 (fun _ => rfl) ?_
    refine x_istore k26_13 (ls' := [(4, vi 0), (3, vi 0), (0, .ref 50), (1, vi a), (2, vi b)]) (by decide) rfl ?_
    refine x_ls (l := [(0, .ref 50), (1, vi a), (2, vi b), (3, vi 0), (4, vi 0)]) (show ([0, 1, 2, 3, 4] : List Nat).Nodup from by decide +kernel) ⟨rfl, rfl, rfl, rfl, rfl, trivial⟩ ?_
    exact L_E_X2_doubters_50_15 s0 a b_a b b_b  (((8 - 0) + 1 : Int)).toNat s0 a b 0 0 hG0 f0 (by first | exact x_rb b_a rfl rfl | exact ⟨by omega, by omega⟩) (by first | exact x_rb b_b rfl rfl | exact ⟨by omega, by omega⟩) ⟨by decide, by decide⟩ ⟨by decide, by decide⟩ (by omega) (by omega) (by omega) (by omega) (show _ = _ from rfl)  (by omega)
  · rw [e_z91]
    show xe none 26 5 [(0, .ref 50), (1, vi a), (2, vi b)] [vi 0] s0 0 0 _
    refine x_if_ne k26_5 (t := 10) rfl ⟨by decide, by decide⟩ (fun c94 => by exfalso; omega) (fun c94 => ?_)
    refine x_A k26_8 (fun _ => rfl) ?_
    exact x_iret k26_9 rfl ⟨hG0, f0, 0, rfl, ⟨by decide, by decide⟩, Or.inl ⟨by omega, rfl⟩⟩
