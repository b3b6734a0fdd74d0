set_option maxHeartbeats 8000000 in
theorem E244_J7_fill_d0a16_248 (s0 : xS) (hG0 : GI s0) (a : Int) (b_a : in64 a) : xe none 228 0 (lv_args 0 [.ref 248, vj a]) [] s0 0 0 (fun s' v => GI s' ∧ FL [3584] s0 s' ∧ v = none ∧ (∀ j : Nat, (j : Int) < 40 → s' 248 j = a)) := by
  have f0 : FL [3584] s0 s0 := FL.rf
  show xe none 228 0 [(0, .ref 248), (1, vj a)] [] s0 0 0 _
  refine x_A k228_0 (fun _ => rfl) ?_
  refine x_istore_n k228_1 (ls' := [(3, vi 0), (0, .ref 248), (1, vj a)]) (by decide) rfl ?_
  refine x_A k228_2 (fun _ => rfl) ?_
  refine x_alen k228_3 (q := 248) (t := 21) (n := 40) (kd := 1) ⟨by decide, rfl⟩ (by decide) ?_
  refine x_top (fun z44 e_z44 => ?_)
  refine x_istore k228_4 (ls' := [(4, vi z44), (3, vi 0), (0, .ref 248), (1, vj a)]) (by decide) rfl ?_
  refine x_ls (l := [(0, .ref 248), (1, vj a), (3, vi 0), (4, vi z44)]) (show ([0, 1, 3, 4] : List Nat).Nodup from by decide +kernel) ⟨rfl, rfl, rfl, rfl, trivial⟩ ?_
  exact L_E244_J7_fill_d0a16_248_6 s0 a b_a  (((40 - 0) + 1 : Int)).toNat s0 a 0 z44 hG0 f0 b_a ⟨by decide, by decide⟩ (by first | exact x_rbe e_z44 g_z44 rfl rfl | exact x_rb g_z44 rfl rfl | exact ⟨by omega, by omega⟩) (by omega) (by omega) rfl (fun j hj => by omega)  (by omega)
set_option maxHeartbeats 8000000 in
theorem E_X1_clear_244 (s0 : xS) (hG0 : GI s0)  : xe none 15 0 (lv_args 0 [.ref 244]) [] s0 0 0 (fun s' v => GI s' ∧ FL [3329, 3334, 3335, 3336, 3392, 3456, 3520, 3584] s0 s' ∧ v = none ∧ ((∀ k : Int, 0 ≤ k → k ≤ 5 → s' 245 k.toNat = 0) ∧ s' 244 0 = 20 ∧ s' 244 5 = 0 ∧ s' 244 6 = 0 ∧ s' 244 7 = 0 ∧ (∀ k : Int, 0 ≤ k → k ≤ 5 → s' 246 k.toNat = 0) ∧ (∀ k : Int, 0 ≤ k → k ≤ 5 → s' 247 k.toNat = 0) ∧ (∀ k : Int, 0 ≤ k → k ≤ 39 → s' 248 k.toNat = 0))) := by
  have f0 : FL [3329, 3334, 3335, 3336, 3392, 3456, 3520, 3584] s0 s0 := FL.rf
  show xe none 15 0 [(0, .ref 244)] [] s0 0 0 _
  refine x_A k15_0 (fun _ => rfl) ?_
  refine x_bipush k15_1 (by decide +kernel) ?_
  refine x_putI k15_3 (f := 0) rfl (q := 244) (n := 8) (kd := 14) ⟨by decide, rfl⟩ rfl rfl rfl ?_
  refine x_nh (fun s1 e_s1 => ?_)
  have hG_s1 : GI s1 := by rw [e_s1]; exact hG0.up (show (-2147483648) ≤ 20 ∧ 20 ≤ 2147483647 from ⟨by decide, by decide⟩)
  have f_s1 : FL [3329, 3334, 3335, 3336, 3392, 3456, 3520, 3584] s0 s1 := by rw [e_s1]; exact f0.up (show 3329 ∈ [3329, 3334, 3335, 3336, 3392, 3456, 3520, 3584] from by decide +kernel)
  have q2 : s1 244 0 = 20 := by rw [e_s1]; exact x_up_same
  refine x_A k15_6 (fun _ => rfl) ?_
  refine x_getR k15_7 (f := 1) rfl (q := 244) (n := 8) (kd := 14) ⟨by decide, rfl⟩ (q2 := 245) (by decide) rfl ?_
  refine x_A k15_10 (fun _ => rfl) ?_
  refine x_callS k15_11 (y := 229) (n := 2) (w0 := 0) (w1 := 2) (as := [.ref 245, vi 0]) (rest := []) (by decide +kernel) rfl rfl rfl rfl (xe_mono (E244_J7_fill_53178_245_c0 s1 hG_s1 0 ⟨by decide, by decide⟩) ?_)
  rintro s4 v ⟨hG_s4, t_s4, rfl, xp_z3⟩
  have f_s4 : FL [3329, 3334, 3335, 3336, 3392, 3456, 3520, 3584] s0 s4 := f_s1.tr t_s4 (by decide +kernel)
  have q5 : s4 244 0 = 20 := (t_s4 244 0 (show 3329 ∉ [3392] from by decide +kernel)).trans q2
  show xe none 15 14 [(0, .ref 244)] [] s4 0 0 _
  refine x_A k15_14 (fun _ => rfl) ?_
  refine x_getR k15_15 (f := 2) rfl (q := 244) (n := 8) (kd := 14) ⟨by decide, rfl⟩ (q2 := 246) (by decide) rfl ?_
  refine x_lconst k15_18 (z := 0) (by decide +kernel) ?_
  refine x_callS k15_19 (y := 228) (n := 2) (w0 := 0) (w1 := 3) (as := [.ref 246, vj 0]) (rest := []) (by decide +kernel) rfl rfl rfl rfl (xe_mono (E244_J7_fill_d0a16_246 s4 hG_s4 0 ⟨by omega, by omega⟩) ?_)
  rintro s7 v ⟨hG_s7, t_s7, rfl, xp_z6⟩
  have f_s7 : FL [3329, 3334, 3335, 3336, 3392, 3456, 3520, 3584] s0 s7 := f_s4.tr t_s7 (by decide +kernel)
  have q8 : s7 244 0 = 20 := (t_s7 244 0 (show 3329 ∉ [3456] from by decide +kernel)).trans q5
  show xe none 15 22 [(0, .ref 244)] [] s7 0 0 _
  refine x_A k15_22 (fun _ => rfl) ?_
  refine x_getR k15_23 (f := 3) rfl (q := 244) (n := 8) (kd := 14) ⟨by decide, rfl⟩ (q2 := 247) (by decide) rfl ?_
  refine x_A k15_26 (fun _ => rfl) ?_
  refine x_callS k15_27 (y := 229) (n := 2) (w0 := 0) (w1 := 2) (as := [.ref 247, vi 0]) (rest := []) (by decide +kernel) rfl rfl rfl rfl (xe_mono (E244_J7_fill_53178_247_c0 s7 hG_s7 0 ⟨by decide, by decide⟩) ?_)
  rintro s10 v ⟨hG_s10, t_s10, rfl, xp_z9⟩
  have f_s10 : FL [3329, 3334, 3335, 3336, 3392, 3456, 3520, 3584] s0 s10 := f_s7.tr t_s10 (by decide +kernel)
  have q11 : s10 244 0 = 20 := (t_s10 244 0 (show 3329 ∉ [3520] from by decide +kernel)).trans q8
  show xe none 15 30 [(0, .ref 244)] [] s10 0 0 _
  refine x_A k15_30 (fun _ => rfl) ?_
  refine x_getR k15_31 (f := 4) rfl (q := 244) (n := 8) (kd := 14) ⟨by decide, rfl⟩ (q2 := 248) (by decide) rfl ?_
  refine x_lconst k15_34 (z := 0) (by decide +kernel) ?_
  refine x_callS k15_35 (y := 228) (n := 2) (w0 := 0) (w1 := 3) (as := [.ref 248, vj 0]) (rest := []) (by decide +kernel) rfl rfl rfl rfl (xe_mono (E244_J7_fill_d0a16_248 s10 hG_s10 0 ⟨by omega, by omega⟩) ?_)
  rintro s13 v ⟨hG_s13, t_s13, rfl, xp_z12⟩
  have f_s13 : FL [3329, 3334, 3335, 3336, 3392, 3456, 3520, 3584] s0 s13 := f_s10.tr t_s13 (by decide +kernel)
  have q14 : s13 244 0 = 20 := (t_s13 244 0 (show 3329 ∉ [3584] from by decide +kernel)).trans q11
  show xe none 15 38 [(0, .ref 244)] [] s13 0 0 _
  refine x_A k15_38 (fun _ => rfl) ?_
  refine x_A k15_39 (fun _ => rfl) ?_
  refine x_putI k15_40 (f := 5) rfl (q := 244) (n := 8) (kd := 14) ⟨by decide, rfl⟩ rfl rfl rfl ?_
  refine x_nh (fun s15 e_s15 => ?_)
  have hG_s15 : GI s15 := by rw [e_s15]; exact hG_s13.up (show (-2147483648) ≤ 0 ∧ 0 ≤ 2147483647 from ⟨by decide, by decide⟩)
  have f_s15 : FL [3329, 3334, 3335, 3336, 3392, 3456, 3520, 3584] s0 s15 := by rw [e_s15]; exact f_s13.up (show 3334 ∈ [3329, 3334, 3335, 3336, 3392, 3456, 3520, 3584] from by decide +kernel)
  have q16 : s15 244 0 = 20 := by rw [e_s15, x_up_i (by decide)]; exact q14
  have q17 : s15 244 5 = 0 := by rw [e_s15]; exact x_up_same
  refine x_A k15_43 (fun _ => rfl) ?_
  refine x_A k15_44 (fun _ => rfl) ?_
  refine x_putI k15_45 (f := 6) rfl (q := 244) (n := 8) (kd := 14) ⟨by decide, rfl⟩ rfl rfl rfl ?_
  refine x_nh (fun s18 e_s18 => ?_)
  have hG_s18 : GI s18 := by rw [e_s18]; exact hG_s15.up (show (-2147483648) ≤ 0 ∧ 0 ≤ 2147483647 from ⟨by decide, by decide⟩)
  have f_s18 : FL [3329, 3334, 3335, 3336, 3392, 3456, 3520, 3584] s0 s18 := by rw [e_s18]; exact f_s15.up (show 3335 ∈ [3329, 3334, 3335, 3336, 3392, 3456, 3520, 3584] from by decide +kernel)
  have q19 : s18 244 0 = 20 := by rw [e_s18, x_up_i (by decide)]; exact q16
  have q20 : s18 244 5 = 0 := by rw [e_s18, x_up_i (by decide)]; exact q17
  have q21 : s18 244 6 = 0 := by rw [e_s18]; exact x_up_same
  refine x_A k15_48 (fun _ => rfl) ?_
  refine x_A k15_49 (fun _ => rfl) ?_
  refine x_putI k15_50 (f := 7) rfl (q := 244) (n := 8) (kd := 14) ⟨by decide, rfl⟩ rfl rfl rfl ?_
  refine x_nh (fun s22 e_s22 => ?_)
  have hG_s22 : GI s22 := by rw [e_s22]; exact hG_s18.up (show (-2147483648) ≤ 0 ∧ 0 ≤ 2147483647 from ⟨by decide, by decide⟩)
  have f_s22 : FL [3329, 3334, 3335, 3336, 3392, 3456, 3520, 3584] s0 s22 := by rw [e_s22]; exact f_s18.up (show 3336 ∈ [3329, 3334, 3335, 3336, 3392, 3456, 3520, 3584] from by decide +kernel)
  have q23 : s22 244 0 = 20 := by rw [e_s22, x_up_i (by decide)]; exact q19
  have q24 : s22 244 5 = 0 := by rw [e_s22, x_up_i (by decide)]; exact q20
  have q25 : s22 244 6 = 0 := by rw [e_s22, x_up_i (by decide)]; exact q21
  have q26 : s22 244 7 = 0 := by rw [e_s22]; exact x_up_same
  exact x_vret k15_53 rfl ⟨hG_s22, f_s22, rfl, ⟨fun k k0 k1 => by rw [e_s22, x_up_q (by decide), e_s18, x_up_q (by decide), e_s15, x_up_q (by decide), t_s13 245 _ (show 3392 ∉ _ from by decide), t_s10 245 _ (show 3392 ∉ _ from by decide), t_s7 245 _ (show 3392 ∉ _ from by decide)]; exact xp_z3 _ (by omega), by omega, by omega, by omega, by omega, fun k k0 k1 => by rw [e_s22, x_up_q (by decide), e_s18, x_up_q (by decide), e_s15, x_up_q (by decide), t_s13 246 _ (show 3456 ∉ _ from by decide), t_s10 246 _ (show 3456 ∉ _ from by decide)]; exact xp_z6 _ (by omega), fun k k0 k1 => by rw [e_s22, x_up_q (by decide), e_s18, x_up_q (by decide), e_s15, x_up_q (by decide), t_s13 247 _ (show 3520 ∉ _ from by decide)]; exact xp_z9 _ (by omega), fun k k0 k1 => by rw [e_s22, x_up_q (by decide), e_s18, x_up_q (by decide), e_s15, x_up_q (by decide)]; exact xp_z12 _ (by omega)⟩⟩
set_option maxHeartbeats 8000000 in
theorem E_X1_applyClause_244 (s0 : xS) (hG0 : GI s0) (a : Int) (b_a : (-1) ≤ a ∧ a ≤ 6) (b : Int) (b_b : (-1) ≤ b ∧ b ≤ 99) (d : Int) (b_d : (-1) ≤ d ∧ d ≤ 99) (p_244_5 : 0 ≤ s0 244 5 ∧ s0 244 5 ≤ 1000) (p_244_6 : 0 ≤ s0 244 6 ∧ s0 244 6 ≤ 1000) (p_244_7 : 0 ≤ s0 244 7 ∧ s0 244 7 ≤ 1000) (pa : ((a = 1 ∨ a = 2 ∨ a = 3) → 0 ≤ b ∧ b ≤ 5) ∧ (a = 3 → 0 ≤ d ∧ d ≤ 5) ∧ (a = 4 → 0 ≤ b ∧ b ≤ 39) ∧ ((a = 2 ∨ a = 4) → 0 ≤ d ∧ d ≤ 39)) : xe none 18 0 (lv_args 0 [.ref 244, vi a, vi b, vi d]) [] s0 0 0 (fun s' v => GI s' ∧ FL [3329, 3334, 3335, 3336, 3392, 3456, 3520, 3584] s0 s' ∧ v = none ∧ (ApC s0 s' 244 a b d ∧ (s0 244 5 ≤ s' 244 5 ∧ s' 244 5 ≤ s0 244 5 + 1) ∧ (s0 244 6 ≤ s' 244 6 ∧ s' 244 6 ≤ s0 244 6 + 1) ∧ (s0 244 7 ≤ s' 244 7 ∧ s' 244 7 ≤ s0 244 7 + 1))) := by
  have f0 : FL [3329, 3334, 3335, 3336, 3392, 3456, 3520, 3584] s0 s0 := FL.rf
  show xe none 18 0 [(0, .ref 244), (1, vi a), (2, vi b), (3, vi d)] [] s0 0 0 _
  obtain ⟨z1, e_z1⟩ : ∃ z, z = s0 244 5 := ⟨_, rfl⟩
  have g_z1 : (-2147483648) ≤ s0 244 5 ∧ s0 244 5 ≤ 2147483647 := hG0 244 5
  obtain ⟨z2, e_z2⟩ : ∃ z, z = s0 244 6 := ⟨_, rfl⟩
  have g_z2 : (-2147483648) ≤ s0 244 6 ∧ s0 244 6 ≤ 2147483647 := hG0 244 6
  obtain ⟨z3, e_z3⟩ : ∃ z, z = s0 244 7 := ⟨_, rfl⟩
  have g_z3 : (-2147483648) ≤ s0 244 7 ∧ s0 244 7 ≤ 2147483647 := hG0 244 7
  refine x_A k18_0 (fun _ => rfl) ?_
  have c4 : a = 1 ∨ a = 2 ∨ a = 3 ∨ a = 4 ∨ a = 5 ∨ ¬ (1 ≤ a ∧ a ≤ 5) := by omega
  rcases c4 with c4 | c4 | c4 | c4 | c4 | c4
  · rw [c4]
    refine x_B k18_1 rfl (fun _ => rfl) (fun _ => rfl) (fun _ _ => rfl) ?_
    show xe none 18 36 [(0, .ref 244), (1, vi 1), (2, vi b), (3, vi d)] [] s0 0 0 _
    refine x_A k18_36 (fun _ => rfl) ?_
    refine x_getR k18_37 (f := 1) rfl (q := 244) (n := 8) (kd := 14) ⟨by decide, rfl⟩ (q2 := 245) (by decide) rfl ?_
    refine x_A k18_40 (fun _ => rfl) ?_
    refine x_A k18_41 (fun _ => rfl) ?_
    refine x_iast k18_42 (q := 245) (n := 6) ⟨by decide, rfl⟩ (by decide) (by first | exact x_rbl b_b rfl rfl | exact ⟨by omega, by omega⟩) ?_
    refine x_nh (fun s5 e_s5 => ?_)
    have hG_s5 : GI s5 := by rw [e_s5]; exact hG0.up (show (-2147483648) ≤ d ∧ d ≤ 2147483647 from (by first | exact x_rb b_d rfl rfl | exact ⟨by omega, by omega⟩))
    have f_s5 : FL [3329, 3334, 3335, 3336, 3392, 3456, 3520, 3584] s0 s5 := by rw [e_s5]; exact f0.up (show 3392 ∈ [3329, 3334, 3335, 3336, 3392, 3456, 3520, 3584] from by decide +kernel)
    have q6 : s5 244 5 = z1 := by rw [e_s5, x_up_q (by decide)]; exact e_z1.symm
    have q7 : s5 244 6 = z2 := by rw [e_s5, x_up_q (by decide)]; exact e_z2.symm
    have q8 : s5 244 7 = z3 := by rw [e_s5, x_up_q (by decide)]; exact e_z3.symm
    have q9 : s5 245 b.toNat = d := by rw [e_s5]; exact x_up_same
    refine x_goto k18_43 (t := 134) rfl ?_
    exact x_vret k18_134 rfl ⟨hG_s5, f_s5, rfl, ⟨ApC.key rfl ⟨by omega, by omega⟩ ⟨(fun _ => by rw [e_s5, x_up_q (by decide)]), (fun h => by cases h), (fun _ => funext fun j => by rw [e_s5, x_up_q (by decide)]), (fun _ => funext fun j => by rw [e_s5, x_up_q (by decide)]), (fun _ => funext fun j => by rw [e_s5, x_up_q (by decide)]), (fun _ => by rw [e_s5, x_up_q (by decide)]), (fun _ => by rw [e_s5, x_up_q (by decide)]), (fun _ => by rw [e_s5, x_up_q (by decide)])⟩ (fun j => by rw [e_s5, x_up_at]), ⟨by omega, by omega⟩, ⟨by omega, by omega⟩, ⟨by omega, by omega⟩⟩⟩
  · rw [c4]
    refine x_B k18_1 rfl (fun _ => rfl) (fun _ => rfl) (fun _ _ => rfl) ?_
    show xe none 18 46 [(0, .ref 244), (1, vi 2), (2, vi b), (3, vi d)] [] s0 0 0 _
    refine x_A k18_46 (fun _ => rfl) ?_
    refine x_getR k18_47 (f := 2) rfl (q := 244) (n := 8) (kd := 14) ⟨by decide, rfl⟩ (q2 := 246) (by decide) rfl ?_
    refine x_A k18_50 (fun _ => rfl) ?_
    refine x_A k18_51 (fun _ => rfl) ?_
    refine x_lald k18_52 (q := 246) (n := 6) ⟨by decide, rfl⟩ (by decide) (by first | exact x_rbl b_b rfl rfl | exact ⟨by omega, by omega⟩) ?_
    refine x_topL (fun z10 e_z10 => ?_)
    have b_z10 : in64 z10 := by rw [e_z10]; exact hG0 246 b.toNat
    refine x_lconst k18_53 (z := 1) (by decide +kernel) ?_
    refine x_A k18_54 (fun _ => rfl) ?_
    refine x_lshl1 k18_55 ⟨by omega, by omega⟩ (fun z11 b_z11 g_z11 => ?_)
    refine x_lor_b k18_56 (fun z12 b_z12 g_z12 => ?_)
    refine x_last k18_57 (q := 246) (n := 6) ⟨by decide, rfl⟩ (by decide) (by first | exact x_rbl b_b rfl rfl | exact ⟨by omega, by omega⟩) ?_
    refine x_nh (fun s13 e_s13 => ?_)
    have hG_s13 : GI s13 := by rw [e_s13]; exact hG0.up (show in64 z12 from b_z12)
    have f_s13 : FL [3329, 3334, 3335, 3336, 3392, 3456, 3520, 3584] s0 s13 := by rw [e_s13]; exact f0.up (show 3456 ∈ [3329, 3334, 3335, 3336, 3392, 3456, 3520, 3584] from by decide +kernel)
    have q14 : s13 244 5 = z1 := by rw [e_s13, x_up_q (by decide)]; exact e_z1.symm
    have q15 : s13 244 6 = z2 := by rw [e_s13, x_up_q (by decide)]; exact e_z2.symm
    have q16 : s13 244 7 = z3 := by rw [e_s13, x_up_q (by decide)]; exact e_z3.symm
    refine x_A k18_58 (fun _ => rfl) ?_
    refine x_A k18_59 (fun _ => rfl) ?_
    refine x_getI k18_60 (f := 5) rfl (q := 244) (n := 8) (kd := 14) ⟨by decide, rfl⟩ (by decide) rfl ?_
    refine x_rw (q14) ?_
    refine x_A k18_63 (fun _ => rfl) ?_
    refine x_iadd k18_64 ?_
    refine x_top (fun z17 e_z17 => ?_)
    refine x_putI k18_65 (f := 5) rfl (q := 244) (n := 8) (kd := 14) ⟨by decide, rfl⟩ rfl rfl rfl ?_
    refine x_nh (fun s18 e_s18 => ?_)
    have hG_s18 : GI s18 := by rw [e_s18]; exact hG_s13.up (show (-2147483648) ≤ z17 ∧ z17 ≤ 2147483647 from (by first | exact x_rbe e_z17 g_z17 rfl rfl | exact x_rb g_z17 rfl rfl | exact ⟨by omega, by omega⟩))
    have f_s18 : FL [3329, 3334, 3335, 3336, 3392, 3456, 3520, 3584] s0 s18 := by rw [e_s18]; exact f_s13.up (show 3334 ∈ [3329, 3334, 3335, 3336, 3392, 3456, 3520, 3584] from by decide +kernel)
    have q19 : s18 244 6 = z2 := by rw [e_s18, x_up_i (by decide)]; exact q15
    have q20 : s18 244 7 = z3 := by rw [e_s18, x_up_i (by decide)]; exact q16
    have q21 : s18 244 5 = z17 := by rw [e_s18]; exact x_up_same
    refine x_goto k18_68 (t := 134) rfl ?_
    exact x_vret k18_134 rfl ⟨hG_s18, f_s18, rfl, ⟨ApC.allow rfl ⟨by omega, by omega⟩ ⟨by omega, by omega⟩ ⟨(fun _ => by rw [e_s18, x_up_i (by decide), e_s13, x_up_q (by decide)]), (fun _ => funext fun j => by rw [e_s18, x_up_q (by decide), e_s13, x_up_q (by decide)]), (fun h => by cases h), (fun _ => funext fun j => by rw [e_s18, x_up_q (by decide), e_s13, x_up_q (by decide)]), (fun _ => funext fun j => by rw [e_s18, x_up_q (by decide), e_s13, x_up_q (by decide)]), (fun h => by cases h), (fun _ => by rw [e_s18, x_up_i (by decide), e_s13, x_up_q (by decide)]), (fun _ => by rw [e_s18, x_up_i (by decide), e_s13, x_up_q (by decide)])⟩ (by omega) (fun j => by rw [e_s18, x_up_q (by decide), e_s13, x_up_at]) e_z10 g_z11 g_z12, ⟨by omega, by omega⟩, ⟨by omega, by omega⟩, ⟨by omega, by omega⟩⟩⟩
  · rw [c4]
    refine x_B k18_1 rfl (fun _ => rfl) (fun _ => rfl) (fun _ _ => rfl) ?_
    show xe none 18 71 [(0, .ref 244), (1, vi 3), (2, vi b), (3, vi d)] [] s0 0 0 _
    refine x_A k18_71 (fun _ => rfl) ?_
    refine x_A k18_72 (fun _ => rfl) ?_
    refine x_ic_eq k18_73 (t := 88) rfl (by first | exact x_rb b_b rfl rfl | exact ⟨by omega, by omega⟩) (by first | exact x_rb b_d rfl rfl | exact ⟨by omega, by omega⟩) (fun c22 => ?_) (fun c22 => ?_)
    · skip
      refine x_A k18_88 (fun _ => rfl) ?_
      refine x_A k18_89 (fun _ => rfl) ?_
      refine x_getI k18_90 (f := 6) rfl (q := 244) (n := 8) (kd := 14) ⟨by decide, rfl⟩ (by decide) rfl ?_
      refine x_rw (e_z2.symm) ?_
      refine x_A k18_93 (fun _ => rfl) ?_
      refine x_iadd k18_94 ?_
      refine x_top (fun z23 e_z23 => ?_)
      refine x_putI k18_95 (f := 6) rfl (q := 244) (n := 8) (kd := 14) ⟨by decide, rfl⟩ rfl rfl rfl ?_
      refine x_nh (fun s24 e_s24 => ?_)
      have hG_s24 : GI s24 := by rw [e_s24]; exact hG0.up (show (-2147483648) ≤ z23 ∧ z23 ≤ 2147483647 from (by first | exact x_rbe e_z23 g_z23 rfl rfl | exact x_rb g_z23 rfl rfl | exact ⟨by omega, by omega⟩))
      have f_s24 : FL [3329, 3334, 3335, 3336, 3392, 3456, 3520, 3584] s0 s24 := by rw [e_s24]; exact f0.up (show 3335 ∈ [3329, 3334, 3335, 3336, 3392, 3456, 3520, 3584] from by decide +kernel)
      have q25 : s24 244 5 = z1 := by rw [e_s24, x_up_i (by decide)]; exact e_z1.symm
      have q26 : s24 244 7 = z3 := by rw [e_s24, x_up_i (by decide)]; exact e_z3.symm
      have q27 : s24 244 6 = z23 := by rw [e_s24]; exact x_up_same
      refine x_goto k18_98 (t := 134) rfl ?_
      exact x_vret k18_134 rfl ⟨hG_s24, f_s24, rfl, ⟨ApC.bar2 rfl (by omega) ⟨(fun _ => by rw [e_s24, x_up_i (by decide)]), (fun _ => funext fun j => by rw [e_s24, x_up_q (by decide)]), (fun _ => funext fun j => by rw [e_s24, x_up_q (by decide)]), (fun _ => funext fun j => by rw [e_s24, x_up_q (by decide)]), (fun _ => funext fun j => by rw [e_s24, x_up_q (by decide)]), (fun _ => by rw [e_s24, x_up_i (by decide)]), (fun h => by cases h), (fun _ => by rw [e_s24, x_up_i (by decide)])⟩ (by omega), ⟨by omega, by omega⟩, ⟨by omega, by omega⟩, ⟨by omega, by omega⟩⟩⟩
    · skip
      refine x_A k18_76 (fun _ => rfl) ?_
      refine x_getR k18_77 (f := 3) rfl (q := 244) (n := 8) (kd := 14) ⟨by decide, rfl⟩ (q2 := 247) (by decide) rfl ?_
      refine x_A k18_80 (fun _ => rfl) ?_
      refine x_A k18_81 (fun _ => rfl) ?_
      refine x_iald k18_82 (q := 247) (n := 6) ⟨by decide, rfl⟩ (by decide) (by first | exact x_rbl b_b rfl rfl | exact ⟨by omega, by omega⟩) ?_
      refine x_top (fun z28 e_z28 => ?_)
      have g_z28 : (-2147483648) ≤ s0 247 b.toNat ∧ s0 247 b.toNat ≤ 2147483647 := hG0 247 b.toNat
      refine x_A k18_83 (fun _ => rfl) ?_
      refine x_A k18_84 (fun _ => rfl) ?_
      refine x_ishl1 k18_85 ⟨by omega, by omega⟩ (fun z29 i_z29 u_z29 => ?_)
      have g_z29 := i_z29
      unfold in32 at g_z29
      refine x_ior_b k18_86 (fun z30 i_z30 u_z30 => ?_)
      have g_z30 := i_z30
      unfold in32 at g_z30
      refine x_iast k18_87 (q := 247) (n := 6) ⟨by decide, rfl⟩ (by decide) (by first | exact x_rbl b_b rfl rfl | exact ⟨by omega, by omega⟩) ?_
      refine x_nh (fun s31 e_s31 => ?_)
      have hG_s31 : GI s31 := by rw [e_s31]; exact hG0.up (show (-2147483648) ≤ z30 ∧ z30 ≤ 2147483647 from (by first | exact x_rbe e_z30 g_z30 rfl rfl | exact x_rb g_z30 rfl rfl | exact ⟨by omega, by omega⟩))
      have f_s31 : FL [3329, 3334, 3335, 3336, 3392, 3456, 3520, 3584] s0 s31 := by rw [e_s31]; exact f0.up (show 3520 ∈ [3329, 3334, 3335, 3336, 3392, 3456, 3520, 3584] from by decide +kernel)
      have q32 : s31 244 5 = z1 := by rw [e_s31, x_up_q (by decide)]; exact e_z1.symm
      have q33 : s31 244 6 = z2 := by rw [e_s31, x_up_q (by decide)]; exact e_z2.symm
      have q34 : s31 244 7 = z3 := by rw [e_s31, x_up_q (by decide)]; exact e_z3.symm
      have q35 : s31 247 b.toNat = z30 := by rw [e_s31]; exact x_up_same
      refine x_A k18_88 (fun _ => rfl) ?_
      refine x_A k18_89 (fun _ => rfl) ?_
      refine x_getI k18_90 (f := 6) rfl (q := 244) (n := 8) (kd := 14) ⟨by decide, rfl⟩ (by decide) rfl ?_
      refine x_rw (q33) ?_
      refine x_A k18_93 (fun _ => rfl) ?_
      refine x_iadd k18_94 ?_
      refine x_top (fun z36 e_z36 => ?_)
      refine x_putI k18_95 (f := 6) rfl (q := 244) (n := 8) (kd := 14) ⟨by decide, rfl⟩ rfl rfl rfl ?_
      refine x_nh (fun s37 e_s37 => ?_)
      have hG_s37 : GI s37 := by rw [e_s37]; exact hG_s31.up (show (-2147483648) ≤ z36 ∧ z36 ≤ 2147483647 from (by first | exact x_rbe e_z36 g_z36 rfl rfl | exact x_rb g_z36 rfl rfl | exact ⟨by omega, by omega⟩))
      have f_s37 : FL [3329, 3334, 3335, 3336, 3392, 3456, 3520, 3584] s0 s37 := by rw [e_s37]; exact f_s31.up (show 3335 ∈ [3329, 3334, 3335, 3336, 3392, 3456, 3520, 3584] from by decide +kernel)
      have q38 : s37 244 5 = z1 := by rw [e_s37, x_up_i (by decide)]; exact q32
      have q39 : s37 244 7 = z3 := by rw [e_s37, x_up_i (by decide)]; exact q34
      have q40 : s37 244 6 = z36 := by rw [e_s37]; exact x_up_same
      have q41 : s37 247 b.toNat = z30 := by rw [e_s37, x_up_q (by first | decide | omega)]; exact q35
      refine x_goto k18_98 (t := 134) rfl ?_
      exact x_vret k18_134 rfl ⟨hG_s37, f_s37, rfl, ⟨ApC.bar rfl ⟨by omega, by omega⟩ ⟨by omega, by omega⟩ (by omega) ⟨(fun _ => by rw [e_s37, x_up_i (by decide), e_s31, x_up_q (by decide)]), (fun _ => funext fun j => by rw [e_s37, x_up_q (by decide), e_s31, x_up_q (by decide)]), (fun _ => funext fun j => by rw [e_s37, x_up_q (by decide), e_s31, x_up_q (by decide)]), (fun h => by cases h), (fun _ => funext fun j => by rw [e_s37, x_up_q (by decide), e_s31, x_up_q (by decide)]), (fun _ => by rw [e_s37, x_up_i (by decide), e_s31, x_up_q (by decide)]), (fun h => by cases h), (fun _ => by rw [e_s37, x_up_i (by decide), e_s31, x_up_q (by decide)])⟩ (by omega) (fun j => by rw [e_s37, x_up_q (by decide), e_s31, x_up_at]) e_z28 u_z29 u_z30, ⟨by omega, by omega⟩, ⟨by omega, by omega⟩, ⟨by omega, by omega⟩⟩⟩
  · rw [c4]
    refine x_B k18_1 rfl (fun _ => rfl) (fun _ => rfl) (fun _ _ => rfl) ?_
    show xe none 18 101 [(0, .ref 244), (1, vi 4), (2, vi b), (3, vi d)] [] s0 0 0 _
    refine x_A k18_101 (fun _ => rfl) ?_
    refine x_getR k18_102 (f := 4) rfl (q := 244) (n := 8) (kd := 14) ⟨by decide, rfl⟩ (q2 := 248) (by decide) rfl ?_
    refine x_A k18_105 (fun _ => rfl) ?_
    refine x_A k18_106 (fun _ => rfl) ?_
    refine x_lald k18_107 (q := 248) (n := 40) ⟨by decide, rfl⟩ (by decide) (by first | exact x_rbl b_b rfl rfl | exact ⟨by omega, by omega⟩) ?_
    refine x_topL (fun z42 e_z42 => ?_)
    have b_z42 : in64 z42 := by rw [e_z42]; exact hG0 248 b.toNat
    refine x_lconst k18_108 (z := 1) (by decide +kernel) ?_
    refine x_A k18_109 (fun _ => rfl) ?_
    refine x_lshl1 k18_110 ⟨by omega, by omega⟩ (fun z43 b_z43 g_z43 => ?_)
    refine x_lor_b k18_111 (fun z44 b_z44 g_z44 => ?_)
    refine x_last k18_112 (q := 248) (n := 40) ⟨by decide, rfl⟩ (by decide) (by first | exact x_rbl b_b rfl rfl | exact ⟨by omega, by omega⟩) ?_
    refine x_nh (fun s45 e_s45 => ?_)
    have hG_s45 : GI s45 := by rw [e_s45]; exact hG0.up (show in64 z44 from b_z44)
    have f_s45 : FL [3329, 3334, 3335, 3336, 3392, 3456, 3520, 3584] s0 s45 := by rw [e_s45]; exact f0.up (show 3584 ∈ [3329, 3334, 3335, 3336, 3392, 3456, 3520, 3584] from by decide +kernel)
    have q46 : s45 244 5 = z1 := by rw [e_s45, x_up_q (by decide)]; exact e_z1.symm
    have q47 : s45 244 6 = z2 := by rw [e_s45, x_up_q (by decide)]; exact e_z2.symm
    have q48 : s45 244 7 = z3 := by rw [e_s45, x_up_q (by decide)]; exact e_z3.symm
    refine x_A k18_113 (fun _ => rfl) ?_
    refine x_A k18_114 (fun _ => rfl) ?_
    refine x_getI k18_115 (f := 7) rfl (q := 244) (n := 8) (kd := 14) ⟨by decide, rfl⟩ (by decide) rfl ?_
    refine x_rw (q48) ?_
    refine x_A k18_118 (fun _ => rfl) ?_
    refine x_iadd k18_119 ?_
    refine x_top (fun z49 e_z49 => ?_)
    refine x_putI k18_120 (f := 7) rfl (q := 244) (n := 8) (kd := 14) ⟨by decide, rfl⟩ rfl rfl rfl ?_
    refine x_nh (fun s50 e_s50 => ?_)
    have hG_s50 : GI s50 := by rw [e_s50]; exact hG_s45.up (show (-2147483648) ≤ z49 ∧ z49 ≤ 2147483647 from (by first | exact x_rbe e_z49 g_z49 rfl rfl | exact x_rb g_z49 rfl rfl | exact ⟨by omega, by omega⟩))
    have f_s50 : FL [3329, 3334, 3335, 3336, 3392, 3456, 3520, 3584] s0 s50 := by rw [e_s50]; exact f_s45.up (show 3336 ∈ [3329, 3334, 3335, 3336, 3392, 3456, 3520, 3584] from by decide +kernel)
    have q51 : s50 244 5 = z1 := by rw [e_s50, x_up_i (by decide)]; exact q46
    have q52 : s50 244 6 = z2 := by rw [e_s50, x_up_i (by decide)]; exact q47
    have q53 : s50 244 7 = z49 := by rw [e_s50]; exact x_up_same
    refine x_goto k18_123 (t := 134) rfl ?_
    exact x_vret k18_134 rfl ⟨hG_s50, f_s50, rfl, ⟨ApC.need rfl ⟨by omega, by omega⟩ ⟨by omega, by omega⟩ ⟨(fun _ => by rw [e_s50, x_up_i (by decide), e_s45, x_up_q (by decide)]), (fun _ => funext fun j => by rw [e_s50, x_up_q (by decide), e_s45, x_up_q (by decide)]), (fun _ => funext fun j => by rw [e_s50, x_up_q (by decide), e_s45, x_up_q (by decide)]), (fun _ => funext fun j => by rw [e_s50, x_up_q (by decide), e_s45, x_up_q (by decide)]), (fun h => by cases h), (fun _ => by rw [e_s50, x_up_i (by decide), e_s45, x_up_q (by decide)]), (fun _ => by rw [e_s50, x_up_i (by decide), e_s45, x_up_q (by decide)]), (fun h => by cases h)⟩ (by omega) (fun j => by rw [e_s50, x_up_q (by decide), e_s45, x_up_at]) e_z42 g_z43 g_z44, ⟨by omega, by omega⟩, ⟨by omega, by omega⟩, ⟨by omega, by omega⟩⟩⟩
  · rw [c4]
    refine x_B k18_1 rfl (fun _ => rfl) (fun _ => rfl) (fun _ _ => rfl) ?_
    show xe none 18 126 [(0, .ref 244), (1, vi 5), (2, vi b), (3, vi d)] [] s0 0 0 _
    refine x_A k18_126 (fun _ => rfl) ?_
    refine x_A k18_127 (fun _ => rfl) ?_
    refine x_putI k18_128 (f := 0) rfl (q := 244) (n := 8) (kd := 14) ⟨by decide, rfl⟩ rfl rfl rfl ?_
    refine x_nh (fun s54 e_s54 => ?_)
    have hG_s54 : GI s54 := by rw [e_s54]; exact hG0.up (show (-2147483648) ≤ b ∧ b ≤ 2147483647 from (by first | exact x_rb b_b rfl rfl | exact ⟨by omega, by omega⟩))
    have f_s54 : FL [3329, 3334, 3335, 3336, 3392, 3456, 3520, 3584] s0 s54 := by rw [e_s54]; exact f0.up (show 3329 ∈ [3329, 3334, 3335, 3336, 3392, 3456, 3520, 3584] from by decide +kernel)
    have q55 : s54 244 5 = z1 := by rw [e_s54, x_up_i (by decide)]; exact e_z1.symm
    have q56 : s54 244 6 = z2 := by rw [e_s54, x_up_i (by decide)]; exact e_z2.symm
    have q57 : s54 244 7 = z3 := by rw [e_s54, x_up_i (by decide)]; exact e_z3.symm
    have q58 : s54 244 0 = b := by rw [e_s54]; exact x_up_same
    refine x_goto k18_131 (t := 134) rfl ?_
    exact x_vret k18_134 rfl ⟨hG_s54, f_s54, rfl, ⟨ApC.most rfl ⟨(fun h => by cases h), (fun _ => funext fun j => by rw [e_s54, x_up_q (by decide)]), (fun _ => funext fun j => by rw [e_s54, x_up_q (by decide)]), (fun _ => funext fun j => by rw [e_s54, x_up_q (by decide)]), (fun _ => funext fun j => by rw [e_s54, x_up_q (by decide)]), (fun _ => by rw [e_s54, x_up_i (by decide)]), (fun _ => by rw [e_s54, x_up_i (by decide)]), (fun _ => by rw [e_s54, x_up_i (by decide)])⟩ (by omega), ⟨by omega, by omega⟩, ⟨by omega, by omega⟩, ⟨by omega, by omega⟩⟩⟩
  · refine x_tabD k18_1 ⟨by omega, by omega⟩ c4 (t0 := 134) rfl ?_
    exact x_vret k18_134 rfl ⟨hG0, f0, rfl, ⟨ApC.none (by omega) rfl, ⟨by omega, by omega⟩, ⟨by omega, by omega⟩, ⟨by omega, by omega⟩⟩⟩
set_option maxHeartbeats 8000000 in
theorem L_E_X1_apply_244_179_2 (s0 : xS) (hJ0 : J s0) (a : Int) (b_a : 0 ≤ a ∧ a ≤ 7) (pa : a < s0 179 5) (pR : R1 s0)  : ∀ (n : Nat) (s : xS) (x2 : Int) (x3 : Int) (x1000 : Int) (x1001 : Int) (x1002 : Int) (x1003 : Int) (hG : GI s) (f : FL [3329, 3334, 3335, 3336, 3392, 3456, 3520, 3584] s0 s) (b_x2 : 0 ≤ x2 ∧ x2 ≤ 7) (b_x3 : 0 ≤ x3 ∧ x3 ≤ 8) (b_x1000 : 0 ≤ x1000 ∧ x1000 ≤ 8) (b_x1001 : (-2147483648) ≤ x1001 ∧ x1001 ≤ 2147483647) (b_x1002 : (-2147483648) ≤ x1002 ∧ x1002 ≤ 2147483647) (b_x1003 : (-2147483648) ≤ x1003 ∧ x1003 ≤ 2147483647) (w_0 : x2 = a ∧ x2 < x1000) (w_1 : x1000 = s0 179 5 ∧ x1000 ≤ 8) (w_2 : ApI s s0 244 a x3) (w_3 : 0 ≤ s0 244 5 ∧ s0 244 5 ≤ x1001 ∧ x1001 ≤ s0 244 5 + x3 ∧ s0 244 5 ≤ 900) (w_4 : 0 ≤ s0 244 6 ∧ s0 244 6 ≤ x1002 ∧ x1002 ≤ s0 244 6 + x3 ∧ s0 244 6 ≤ 900) (w_5 : 0 ≤ s0 244 7 ∧ s0 244 7 ≤ x1003 ∧ x1003 ≤ s0 244 7 + x3 ∧ s0 244 7 ≤ 900) (w_6 : x3 ≤ s 181 x2.toNat) (e_x1000 : x1000 = s 179 5) (e_x1001 : x1001 = s 244 5) (e_x1002 : x1002 = s 244 6) (e_x1003 : x1003 = s 244 7)  (hm : (8 - x3) < (n : Int)), xe none 17 2 [(0, .ref 244), (1, .ref 179), (2, vi x2), (3, vi x3)] [] s 0 0 (fun s' v => GI s' ∧ FL [3329, 3334, 3335, 3336, 3392, 3456, 3520, 3584] s0 s' ∧ v = none ∧ (ApZ s' s0 244 a ∧ (s0 244 5 ≤ s' 244 5 ∧ s' 244 5 ≤ s0 244 5 + 8) ∧ (s0 244 6 ≤ s' 244 6 ∧ s' 244 6 ≤ s0 244 6 + 8) ∧ (s0 244 7 ≤ s' 244 7 ∧ s' 244 7 ≤ s0 244 7 + 8))) := by
  intro n
  induction n with
  | zero => intro s x2 x3 x1000 x1001 x1002 x1003 hG f b_x2 b_x3 b_x1000 b_x1001 b_x1002 b_x1003 w_0 w_1 w_2 w_3 w_4 w_5 w_6 e_x1000 e_x1001 e_x1002 e_x1003  hm; exfalso; omega
  | succ n ih =>
    intro s x2 x3 x1000 x1001 x1002 x1003 hG f b_x2 b_x3 b_x1000 b_x1001 b_x1002 b_x1003 w_0 w_1 w_2 w_3 w_4 w_5 w_6 e_x1000 e_x1001 e_x1002 e_x1003  hm
    refine x_A k17_2 (fun _ => rfl) ?_
    refine x_A k17_3 (fun _ => rfl) ?_
    refine x_getR k17_4 (f := 1) rfl (q := 179) (n := 6) (kd := 8) ⟨by decide, rfl⟩ (q2 := 181) (by decide) rfl ?_
    refine x_A k17_7 (fun _ => rfl) ?_
    refine x_iald k17_8 (q := 181) (n := 8) ⟨by decide, rfl⟩ (by decide) (by first | exact x_rbl b_x2 rfl rfl | exact ⟨by omega, by omega⟩) ?_
    refine x_top (fun z150 e_z150 => ?_)
    have g_z150 : (0 : Int) ≤ s 181 x2.toNat ∧ s 181 x2.toNat ≤ 9 := hG 181 x2.toNat
    refine x_ic_ge k17_9 (t := 46) rfl (by first | exact x_rb b_x3 rfl rfl | exact ⟨by omega, by omega⟩) (by first | exact x_rbe e_z150 g_z150 rfl rfl | exact x_rb g_z150 rfl rfl | exact ⟨by omega, by omega⟩) (fun c151 => ?_) (fun c151 => ?_)
    · skip
      exact x_vret k17_46 rfl ⟨hG, f, rfl, ⟨ApI.fin w_2 ⟨by omega, by omega⟩ (by rw [← f 181 a.toNat (show 1472 ∉ [3329, 3334, 3335, 3336, 3392, 3456, 3520, 3584] from by decide +kernel), ← show x2 = a by omega, e_z150.symm]; omega), ⟨by omega, by omega⟩, ⟨by omega, by omega⟩, ⟨by omega, by omega⟩⟩⟩
    · skip
      have cr152 := (hJ0.fl f (by decide +kernel)).cr x2 x3 ⟨by omega, by omega⟩ (by omega) (by omega) (by rw [e_z150.symm]; omega)
      refine x_A k17_12 (fun _ => rfl) ?_
      refine x_A k17_13 (fun _ => rfl) ?_
      refine x_getR k17_14 (f := 2) rfl (q := 179) (n := 6) (kd := 8) ⟨by decide, rfl⟩ (q2 := 182) (by decide) rfl ?_
      refine x_A k17_17 (fun _ => rfl) ?_
      refine x_aald k17_18 (q := 182) (t := 23) (n := 8) ⟨by decide, rfl⟩ (by decide) (by decide) ⟨by omega, by omega⟩ ?_
      refine x_A k17_19 (fun _ => rfl) ?_
      refine x_iald k17_20 (q := (182 + 1 + x2.toNat)) (n := 8) (xg_183 (by omega) (by omega)) (by decide) (by first | exact x_rbl b_x3 rfl rfl | exact ⟨by omega, by omega⟩) ?_
      refine x_top (fun z153 e_z153 => ?_)
      have r_z153 := hG (182 + 1 + x2.toNat) x3.toNat
      rw [(gr_183 x3.toNat (show 183 ≤ (182 + 1 + x2.toNat) by omega) (by omega)).1, (gr_183 x3.toNat (show 183 ≤ (182 + 1 + x2.toNat) by omega) (by omega)).2.1, ← e_z153] at r_z153
      refine x_A k17_21 (fun _ => rfl) ?_
      refine x_getR k17_22 (f := 3) rfl (q := 179) (n := 6) (kd := 8) ⟨by decide, rfl⟩ (q2 := 191) (by decide) rfl ?_
      refine x_A k17_25 (fun _ => rfl) ?_
      refine x_aald k17_26 (q := 191) (t := 23) (n := 8) ⟨by decide, rfl⟩ (by decide) (by decide) ⟨by omega, by omega⟩ ?_
      refine x_A k17_27 (fun _ => rfl) ?_
      refine x_iald k17_28 (q := (191 + 1 + x2.toNat)) (n := 8) (xg_192 (by omega) (by omega)) (by decide) (by first | exact x_rbl b_x3 rfl rfl | exact ⟨by omega, by omega⟩) ?_
      refine x_top (fun z154 e_z154 => ?_)
      have r_z154 := hG (191 + 1 + x2.toNat) x3.toNat
      rw [(gr_192 x3.toNat (show 192 ≤ (191 + 1 + x2.toNat) by omega) (by omega)).1, (gr_192 x3.toNat (show 192 ≤ (191 + 1 + x2.toNat) by omega) (by omega)).2.1, ← e_z154] at r_z154
      refine x_A k17_29 (fun _ => rfl) ?_
      refine x_getR k17_30 (f := 4) rfl (q := 179) (n := 6) (kd := 8) ⟨by decide, rfl⟩ (q2 := 200) (by decide) rfl ?_
      refine x_A k17_33 (fun _ => rfl) ?_
      refine x_aald k17_34 (q := 200) (t := 23) (n := 8) ⟨by decide, rfl⟩ (by decide) (by decide) ⟨by omega, by omega⟩ ?_
      refine x_A k17_35 (fun _ => rfl) ?_
      refine x_iald k17_36 (q := (200 + 1 + x2.toNat)) (n := 8) (xg_201 (by omega) (by omega)) (by decide) (by first | exact x_rbl b_x3 rfl rfl | exact ⟨by omega, by omega⟩) ?_
      refine x_top (fun z155 e_z155 => ?_)
      have r_z155 := hG (200 + 1 + x2.toNat) x3.toNat
      rw [(gr_201 x3.toNat (show 201 ≤ (200 + 1 + x2.toNat) by omega) (by omega)).1, (gr_201 x3.toNat (show 201 ≤ (200 + 1 + x2.toNat) by omega) (by omega)).2.1, ← e_z155] at r_z155
      have api_x : 0 ≤ x3 ∧ x3 < s0 181 a.toNat := ⟨by omega, by rw [← f 181 a.toNat (show 1472 ∉ [3329, 3334, 3335, 3336, 3392, 3456, 3520, 3584] from by decide +kernel), ← show x2 = a by omega, e_z150.symm]; omega⟩
      have api_k : z153 = s0 (182 + 1 + a.toNat) x3.toNat := by rw [← f (182 + 1 + a.toNat) x3.toNat (by rw [(gr_183 x3.toNat (by omega) (by omega)).2.2]; decide), ← show x2 = a by omega]; exact (e_z153.symm).symm
      have api_b : z154 = s0 (191 + 1 + a.toNat) x3.toNat := by rw [← f (191 + 1 + a.toNat) x3.toNat (by rw [(gr_192 x3.toNat (by omega) (by omega)).2.2]; decide), ← show x2 = a by omega]; exact (e_z154.symm).symm
      have api_d : z155 = s0 (200 + 1 + a.toNat) x3.toNat := by rw [← f (200 + 1 + a.toNat) x3.toNat (by rw [(gr_201 x3.toNat (by omega) (by omega)).2.2]; decide), ← show x2 = a by omega]; exact (e_z155.symm).symm
      have ok := pR.ok (r := a) (n := x3) ⟨by omega, by omega⟩ api_x
      rw [← api_k, ← api_b, ← api_d] at ok
      unfold okS at ok
      refine x_callV k17_37 (y := 18) (n := 3) (w0 := 0) (w1 := 3) (as := [vi z153, vi z154, vi z155]) (rest := []) (by decide +kernel) (q := 244) (nq := 8) (kq := 14) ⟨by decide, rfl⟩ rfl rfl rfl rfl (xe_mono (E_X1_applyClause_244 s hG z153 (by first | exact x_rbe e_z153 g_z153 rfl rfl | exact x_rb g_z153 rfl rfl | exact ⟨by omega, by omega⟩) z154 (by first | exact x_rbe e_z154 g_z154 rfl rfl | exact x_rb g_z154 rfl rfl | exact ⟨by omega, by omega⟩) z155 (by first | exact x_rbe e_z155 g_z155 rfl rfl | exact x_rb g_z155 rfl rfl | exact ⟨by omega, by omega⟩) ⟨by omega, by omega⟩ ⟨by omega, by omega⟩ ⟨by omega, by omega⟩ (by omega)) ?_)
      rintro s157 v ⟨hG_s157, t_s157, rfl, xp_z156⟩
      have f_s157 : FL [3329, 3334, 3335, 3336, 3392, 3456, 3520, 3584] s0 s157 := f.tr t_s157 (by decide +kernel)
      have q158 : s157 179 5 = x1000 := (t_s157 179 5 (show 1350 ∉ [3329, 3334, 3335, 3336, 3392, 3456, 3520, 3584] from by decide +kernel)).trans e_x1000.symm
      have q159 : s157 181 x2.toNat = z150 := (t_s157 181 x2.toNat (show 1472 ∉ [3329, 3334, 3335, 3336, 3392, 3456, 3520, 3584] from by decide +kernel)).trans e_z150.symm
      obtain ⟨z160, e_z160⟩ : ∃ z, z = s157 244 5 := ⟨_, rfl⟩
      have g_z160 : (-2147483648) ≤ s157 244 5 ∧ s157 244 5 ≤ 2147483647 := hG_s157 244 5
      obtain ⟨z161, e_z161⟩ : ∃ z, z = s157 244 6 := ⟨_, rfl⟩
      have g_z161 : (-2147483648) ≤ s157 244 6 ∧ s157 244 6 ≤ 2147483647 := hG_s157 244 6
      obtain ⟨z162, e_z162⟩ : ∃ z, z = s157 244 7 := ⟨_, rfl⟩
      have g_z162 : (-2147483648) ≤ s157 244 7 ∧ s157 244 7 ≤ 2147483647 := hG_s157 244 7
      show xe none 17 40 [(0, .ref 244), (1, .ref 179), (2, vi x2), (3, vi x3)] [] s157 0 0 _
      refine x_iinc k17_40 (ls' := [(3, vi (x3 + 1)), (0, .ref 244), (1, .ref 179), (2, vi x2)]) rfl (by decide) rfl ?_
      refine x_goto k17_43 (t := 2) rfl ?_
      refine x_ls (l := [(0, .ref 244), (1, .ref 179), (2, vi x2), (3, vi (x3 + 1))]) (show ([0, 1, 2, 3] : List Nat).Nodup from by decide +kernel) ⟨rfl, rfl, rfl, rfl, trivial⟩ ?_
      exact ih s157 x2 (x3 + 1) x1000 z160 z161 z162 hG_s157 f_s157 (by first | exact x_rb b_x2 rfl rfl | exact ⟨by omega, by omega⟩) ⟨by omega, by omega⟩ (by first | exact x_rb b_x1000 rfl rfl | exact ⟨by omega, by omega⟩) (by first | exact x_rbe e_z160 g_z160 rfl rfl | exact x_rb g_z160 rfl rfl | exact ⟨by omega, by omega⟩) (by first | exact x_rbe e_z161 g_z161 rfl rfl | exact x_rb g_z161 rfl rfl | exact ⟨by omega, by omega⟩) (by first | exact x_rbe e_z162 g_z162 rfl rfl | exact x_rb g_z162 rfl rfl | exact ⟨by omega, by omega⟩) (by omega) (by omega) (ApI.step w_2 xp_z156.1 ⟨by omega, by omega⟩ (by omega) api_x api_k api_b api_d) (by omega) (by omega) (by omega) (by rw [(t_s157 181 x2.toNat (show 1472 ∉ _ from by decide))]; omega) (q158).symm (e_z160.symm).symm (e_z161.symm).symm (e_z162.symm).symm  (by omega)
set_option maxHeartbeats 8000000 in
theorem E_X1_apply_244_179 (s0 : xS) (hG0 : GI s0) (hJ0 : J s0) (a : Int) (b_a : 0 ≤ a ∧ a ≤ 7) (p_244_5 : 0 ≤ s0 244 5 ∧ s0 244 5 ≤ 900) (p_244_6 : 0 ≤ s0 244 6 ∧ s0 244 6 ≤ 900) (p_244_7 : 0 ≤ s0 244 7 ∧ s0 244 7 ≤ 900) (pa : a < s0 179 5) (pR : R1 s0) : xe none 17 0 (lv_args 0 [.ref 244, .ref 179, vi a]) [] s0 0 0 (fun s' v => GI s' ∧ FL [3329, 3334, 3335, 3336, 3392, 3456, 3520, 3584] s0 s' ∧ v = none ∧ (ApZ s' s0 244 a ∧ (s0 244 5 ≤ s' 244 5 ∧ s' 244 5 ≤ s0 244 5 + 8) ∧ (s0 244 6 ≤ s' 244 6 ∧ s' 244 6 ≤ s0 244 6 + 8) ∧ (s0 244 7 ≤ s' 244 7 ∧ s' 244 7 ≤ s0 244 7 + 8))) := by
  have f0 : FL [3329, 3334, 3335, 3336, 3392, 3456, 3520, 3584] s0 s0 := FL.rf
  show xe none 17 0 [(0, .ref 244), (1, .ref 179), (2, vi a)] [] s0 0 0 _
  obtain ⟨z163, e_z163⟩ : ∃ z, z = s0 244 5 := ⟨_, rfl⟩
  have g_z163 : (-2147483648) ≤ s0 244 5 ∧ s0 244 5 ≤ 2147483647 := hG0 244 5
  obtain ⟨z164, e_z164⟩ : ∃ z, z = s0 244 6 := ⟨_, rfl⟩
  have g_z164 : (-2147483648) ≤ s0 244 6 ∧ s0 244 6 ≤ 2147483647 := hG0 244 6
  obtain ⟨z165, e_z165⟩ : ∃ z, z = s0 244 7 := ⟨_, rfl⟩
  have g_z165 : (-2147483648) ≤ s0 244 7 ∧ s0 244 7 ≤ 2147483647 := hG0 244 7
  have r8 := pR.1
  refine x_A k17_0 (fun _ => rfl) ?_
  refine x_istore_n k17_1 (ls' := [(3, vi 0), (0, .ref 244), (1, .ref 179), (2, vi a)]) (by decide) rfl ?_
  obtain ⟨z166, e_z166⟩ : ∃ z, z = s0 179 5 := ⟨_, rfl⟩
  have g_z166 : (0 : Int) ≤ s0 179 5 ∧ s0 179 5 ≤ 8 := hG0 179 5
  refine x_ls (l := [(0, .ref 244), (1, .ref 179), (2, vi a), (3, vi 0)]) (show ([0, 1, 2, 3] : List Nat).Nodup from by decide +kernel) ⟨rfl, rfl, rfl, rfl, trivial⟩ ?_
  exact L_E_X1_apply_244_179_2 s0 hJ0 a b_a pa pR  (((8 - 0) + 1 : Int)).toNat s0 a 0 z166 z163 z164 z165 hG0 f0 (by first | exact x_rb b_a rfl rfl | exact ⟨by omega, by omega⟩) ⟨by decide, by decide⟩ (by first | exact x_rbe e_z166 g_z166 rfl rfl | exact x_rb g_z166 rfl rfl | exact ⟨by omega, by omega⟩) (by first | exact x_rbe e_z163 g_z163 rfl rfl | exact x_rb g_z163 rfl rfl | exact ⟨by omega, by omega⟩) (by first | exact x_rbe e_z164 g_z164 rfl rfl | exact x_rb g_z164 rfl rfl | exact ⟨by omega, by omega⟩) (by first | exact x_rbe e_z165 g_z165 rfl rfl | exact x_rb g_z165 rfl rfl | exact ⟨by omega, by omega⟩) (by omega) (by omega) ApI_0 (by omega) (by omega) (by omega) (show (0 : Int) ≤ s0 181 a.toNat ∧ s0 181 a.toNat ≤ 9 from hG0 181 a.toNat).1 (e_z166.symm).symm (e_z163.symm).symm (e_z164.symm).symm (e_z165.symm).symm  (by omega)
set_option maxHeartbeats 8000000 in
theorem L_E_X1_setTo_244_179_29 (s0 : xS) (hJ0 : J s0) (a : Int) (b_a : 0 ≤ a ∧ a ≤ 9) (pR : R1 s0) (n_13 : Nat) (ih_13 : ∀ (s : xS) (x2 : Int) (x3 : Int) (x4 : Int) (x1000 : Int) (x1001 : Int) (x1002 : Int) (x1003 : Int) (hG : GI s) (f : FL [3329, 3334, 3335, 3336, 3392, 3456, 3520, 3584] s0 s) (b_x2 : 0 ≤ x2 ∧ x2 ≤ 9) (b_x3 : (-2147483648) ≤ x3 ∧ x3 ≤ 2147483647) (b_x4 : 0 ≤ x4 ∧ x4 ≤ 10) (b_x1000 : 0 ≤ x1000 ∧ x1000 ≤ 8) (b_x1001 : (-2147483648) ≤ x1001 ∧ x1001 ≤ 2147483647) (b_x1002 : (-2147483648) ≤ x1002 ∧ x1002 ≤ 2147483647) (b_x1003 : (-2147483648) ≤ x1003 ∧ x1003 ≤ 2147483647) (w_0 : x1000 = s0 179 5 ∧ x1000 ≤ 8) (w_1 : x2 = a) (w_2 : CtZ s0 a x3) (w_3 : FoP s s0 244 (foF s0 a x4.toNat) (Pd s0 a x4 0 0)) (w_4 : 0 ≤ x1001 ∧ x1001 ≤ 64 * x4) (w_5 : 0 ≤ x1002 ∧ x1002 ≤ 64 * x4) (w_6 : 0 ≤ x1003 ∧ x1003 ≤ 64 * x4) (w_7 : 0 ≤ x4 ∧ x4 ≤ a + 1) (e_x1000 : x1000 = s 179 5) (e_x1001 : x1001 = s 244 5) (e_x1002 : x1002 = s 244 6) (e_x1003 : x1003 = s 244 7) (hm : (10 - x4) < (n_13 : Int)), xe none 16 13 [(0, .ref 244), (1, .ref 179), (2, vi x2), (3, vi x3), (4, vi x4)] [] s 0 0 (fun s' v => GI s' ∧ FL [3329, 3334, 3335, 3336, 3392, 3456, 3520, 3584] s0 s' ∧ v = none ∧ (Fo s' s0 244 a))) : ∀ (n : Nat) (s : xS) (x2 : Int) (x3 : Int) (x4 : Int) (x5 : Int) (x1000 : Int) (x1001 : Int) (x1002 : Int) (x1003 : Int) (hG : GI s) (f : FL [3329, 3334, 3335, 3336, 3392, 3456, 3520, 3584] s0 s) (b_x2 : 0 ≤ x2 ∧ x2 ≤ 9) (b_x3 : (-2147483648) ≤ x3 ∧ x3 ≤ 2147483647) (b_x4 : 0 ≤ x4 ∧ x4 ≤ 9) (b_x5 : 0 ≤ x5 ∧ x5 ≤ 8) (b_x1000 : 0 ≤ x1000 ∧ x1000 ≤ 8) (b_x1001 : (-2147483648) ≤ x1001 ∧ x1001 ≤ 2147483647) (b_x1002 : (-2147483648) ≤ x1002 ∧ x1002 ≤ 2147483647) (b_x1003 : (-2147483648) ≤ x1003 ∧ x1003 ≤ 2147483647) (r_5_1000 : x5 ≤ x1000 + 0) (r_4_2 : x4 ≤ x2 + 0) (w_0 : x1000 = s0 179 5 ∧ x1000 ≤ 8) (w_1 : x2 = a) (w_2 : CtZ s0 a x3) (w_3 : FoP s s0 244 (foG s0 a x4 x5.toNat) (Pd s0 a x4 x5 0)) (w_4 : 0 ≤ x1001 ∧ x1001 ≤ 64 * x4 + 8 * x5) (w_5 : 0 ≤ x1002 ∧ x1002 ≤ 64 * x4 + 8 * x5) (w_6 : 0 ≤ x1003 ∧ x1003 ≤ 64 * x4 + 8 * x5) (w_7 : 0 ≤ x4 ∧ x4 ≤ a) (w_8 : 0 ≤ x5 ∧ x5 ≤ x1000) (e_x1000 : x1000 = s 179 5) (e_x1001 : x1001 = s 244 5) (e_x1002 : x1002 = s 244 6) (e_x1003 : x1003 = s 244 7) (k_13 : (10 - x4) < (n_13 : Int) + 1) (hm : (8 - x5) < (n : Int)), xe none 16 29 [(0, .ref 244), (1, .ref 179), (2, vi x2), (3, vi x3), (4, vi x4), (5, vi x5)] [] s 0 0 (fun s' v => GI s' ∧ FL [3329, 3334, 3335, 3336, 3392, 3456, 3520, 3584] s0 s' ∧ v = none ∧ (Fo s' s0 244 a)) := by
  intro n
  induction n with
  | zero => intro s x2 x3 x4 x5 x1000 x1001 x1002 x1003 hG f b_x2 b_x3 b_x4 b_x5 b_x1000 b_x1001 b_x1002 b_x1003 r_5_1000 r_4_2 w_0 w_1 w_2 w_3 w_4 w_5 w_6 w_7 w_8 e_x1000 e_x1001 e_x1002 e_x1003 k_13 hm; exfalso; omega
  | succ n ih =>
    intro s x2 x3 x4 x5 x1000 x1001 x1002 x1003 hG f b_x2 b_x3 b_x4 b_x5 b_x1000 b_x1001 b_x1002 b_x1003 r_5_1000 r_4_2 w_0 w_1 w_2 w_3 w_4 w_5 w_6 w_7 w_8 e_x1000 e_x1001 e_x1002 e_x1003 k_13 hm
    refine x_A k16_29 (fun _ => rfl) ?_
    refine x_A k16_31 (fun _ => rfl) ?_
    refine x_getI k16_32 (f := 5) rfl (q := 179) (n := 6) (kd := 8) ⟨by decide, rfl⟩ (by decide) rfl ?_
    refine x_rw (e_x1000.symm) ?_
    refine x_ic_ge k16_35 (t := 72) rfl (by first | exact x_rb b_x5 rfl rfl | exact ⟨by omega, by omega⟩) (by first | exact x_rb b_x1000 rfl rfl | exact ⟨by omega, by omega⟩) (fun c267 => ?_) (fun c267 => ?_)
    · skip
      refine x_iinc k16_72 (ls' := [(4, vi (x4 + 1)), (0, .ref 244), (1, .ref 179), (2, vi x2), (3, vi x3), (5, vi x5)]) rfl (by decide) rfl ?_
      refine x_goto k16_75 (t := 13) rfl ?_
      refine x_ls (l := [(0, .ref 244), (1, .ref 179), (2, vi x2), (3, vi x3), (4, vi (x4 + 1))]) (show ([0, 1, 2, 3, 4] : List Nat).Nodup from by decide +kernel) ⟨rfl, rfl, rfl, rfl, rfl, trivial⟩ ?_
      exact ih_13 s x2 x3 (x4 + 1) x1000 x1001 x1002 x1003 hG f (by first | exact x_rb b_x2 rfl rfl | exact ⟨by omega, by omega⟩) (by first | exact x_rb b_x3 rfl rfl | exact ⟨by omega, by omega⟩) ⟨by omega, by omega⟩ (by first | exact x_rb b_x1000 rfl rfl | exact ⟨by omega, by omega⟩) (by first | exact x_rb b_x1001 rfl rfl | exact ⟨by omega, by omega⟩) (by first | exact x_rb b_x1002 rfl rfl | exact ⟨by omega, by omega⟩) (by first | exact x_rb b_x1003 rfl rfl | exact ⟨by omega, by omega⟩) (by omega) (by omega) w_2 (FoP.round w_3 (by omega) (by omega)) (by omega) (by omega) (by omega) (by omega) (e_x1000.symm).symm (e_x1001.symm).symm (e_x1002.symm).symm (e_x1003.symm).symm (by omega)
    · skip
      refine x_A k16_38 (fun _ => rfl) ?_
      refine x_getR k16_39 (f := 0) rfl (q := 179) (n := 6) (kd := 8) ⟨by decide, rfl⟩ (q2 := 180) (by decide) rfl ?_
      refine x_A k16_42 (fun _ => rfl) ?_
      refine x_iald k16_44 (q := 180) (n := 8) ⟨by decide, rfl⟩ (by decide) (by first | exact x_rbl b_x5 rfl rfl | exact ⟨by omega, by omega⟩) ?_
      refine x_top (fun z268 e_z268 => ?_)
      have g_z268 : (0 : Int) ≤ s 180 x5.toNat ∧ s 180 x5.toNat ≤ 9 := hG 180 x5.toNat
      refine x_A k16_45 (fun _ => rfl) ?_
      refine x_ic_ne k16_47 (t := 66) rfl (by first | exact x_rbe e_z268 g_z268 rfl rfl | exact x_rb g_z268 rfl rfl | exact ⟨by omega, by omega⟩) (by first | exact x_rb b_x4 rfl rfl | exact ⟨by omega, by omega⟩) (fun c269 => ?_) (fun c269 => ?_)
      · skip
        refine x_iinc k16_66 (ls' := [(5, vi (x5 + 1)), (0, .ref 244), (1, .ref 179), (2, vi x2), (3, vi x3), (4, vi x4)]) rfl (by decide) rfl ?_
        refine x_goto k16_69 (t := 29) rfl ?_
        refine x_ls (l := [(0, .ref 244), (1, .ref 179), (2, vi x2), (3, vi x3), (4, vi x4), (5, vi (x5 + 1))]) (show ([0, 1, 2, 3, 4, 5] : List Nat).Nodup from by decide +kernel) ⟨rfl, rfl, rfl, rfl, rfl, rfl, trivial⟩ ?_
        exact ih s x2 x3 x4 (x5 + 1) x1000 x1001 x1002 x1003 hG f (by first | exact x_rb b_x2 rfl rfl | exact ⟨by omega, by omega⟩) (by first | exact x_rb b_x3 rfl rfl | exact ⟨by omega, by omega⟩) (by first | exact x_rb b_x4 rfl rfl | exact ⟨by omega, by omega⟩) ⟨by omega, by omega⟩ (by first | exact x_rb b_x1000 rfl rfl | exact ⟨by omega, by omega⟩) (by first | exact x_rb b_x1001 rfl rfl | exact ⟨by omega, by omega⟩) (by first | exact x_rb b_x1002 rfl rfl | exact ⟨by omega, by omega⟩) (by first | exact x_rb b_x1003 rfl rfl | exact ⟨by omega, by omega⟩) (by omega) (by omega) (by omega) (by omega) w_2 (FoP.skip w_3 ⟨by omega, by omega⟩ (fun q => by have q1 := q.1; rw [edC_in ⟨by omega, by omega⟩, ← f 180 x5.toNat (show 1408 ∉ [3329, 3334, 3335, 3336, 3392, 3456, 3520, 3584] from by decide +kernel), e_z268.symm] at q1; omega)) (by omega) (by omega) (by omega) (by omega) (by omega) (e_x1000.symm).symm (e_x1001.symm).symm (e_x1002.symm).symm (e_x1003.symm).symm (by omega) (by omega)
      · skip
        refine x_A k16_50 (fun _ => rfl) ?_
        refine x_A k16_51 (fun _ => rfl) ?_
        refine x_iushr_b k16_53 ⟨by omega, by omega⟩ (fun z270 i_z270 u_z270 => ?_)
        have g_z270 := i_z270
        unfold in32 at g_z270
        refine x_A k16_54 (fun _ => rfl) ?_
        refine x_iand_b k16_55 (fun z271 i_z271 u_z271 => ?_)
        have g_z271 := i_z271
        unfold in32 at g_z271
        have bx := bi_at u_z270 i_z271 u_z271
        refine x_if_eq k16_56 (t := 66) rfl (by first | exact x_rbe e_z271 g_z271 rfl rfl | exact x_rb g_z271 rfl rfl | exact ⟨by omega, by omega⟩) (fun c272 => ?_) (fun c272 => ?_)
        · skip
          refine x_iinc k16_66 (ls' := [(5, vi (x5 + 1)), (0, .ref 244), (1, .ref 179), (2, vi x2), (3, vi x3), (4, vi x4)]) rfl (by decide) rfl ?_
          refine x_goto k16_69 (t := 29) rfl ?_
          refine x_ls (l := [(0, .ref 244), (1, .ref 179), (2, vi x2), (3, vi x3), (4, vi x4), (5, vi (x5 + 1))]) (show ([0, 1, 2, 3, 4, 5] : List Nat).Nodup from by decide +kernel) ⟨rfl, rfl, rfl, rfl, rfl, rfl, trivial⟩ ?_
          exact ih s x2 x3 x4 (x5 + 1) x1000 x1001 x1002 x1003 hG f (by first | exact x_rb b_x2 rfl rfl | exact ⟨by omega, by omega⟩) (by first | exact x_rb b_x3 rfl rfl | exact ⟨by omega, by omega⟩) (by first | exact x_rb b_x4 rfl rfl | exact ⟨by omega, by omega⟩) ⟨by omega, by omega⟩ (by first | exact x_rb b_x1000 rfl rfl | exact ⟨by omega, by omega⟩) (by first | exact x_rb b_x1001 rfl rfl | exact ⟨by omega, by omega⟩) (by first | exact x_rb b_x1002 rfl rfl | exact ⟨by omega, by omega⟩) (by first | exact x_rb b_x1003 rfl rfl | exact ⟨by omega, by omega⟩) (by omega) (by omega) (by omega) (by omega) w_2 (FoP.skip w_3 ⟨by omega, by omega⟩ (fun q => absurd ((CtZ.at w_2 ⟨by omega, by omega⟩ (by omega)).mpr q.2) (by rw [(bx.resolve_right (fun q => by omega)).2]; decide))) (by omega) (by omega) (by omega) (by omega) (by omega) (e_x1000.symm).symm (e_x1001.symm).symm (e_x1002.symm).symm (e_x1003.symm).symm (by omega) (by omega)
        · skip
          refine x_A k16_59 (fun _ => rfl) ?_
          refine x_A k16_60 (fun _ => rfl) ?_
          refine x_A k16_61 (fun _ => rfl) ?_
          have ed5 : edC s0 x5 = x4 := by rw [edC_in ⟨by omega, by omega⟩, ← f 180 x5.toNat (show 1408 ∉ [3329, 3334, 3335, 3336, 3392, 3456, 3520, 3584] from by decide +kernel), e_z268.symm]; omega
          refine x_callV k16_63 (y := 17) (n := 2) (w0 := 0) (w1 := 2) (as := [.ref 179, vi x5]) (rest := []) (by decide +kernel) (q := 244) (nq := 8) (kq := 14) ⟨by decide, rfl⟩ rfl rfl rfl rfl (xe_mono (E_X1_apply_244_179 s hG (hJ0.fl f (by decide +kernel)) x5 (by first | exact x_rb b_x5 rfl rfl | exact ⟨by omega, by omega⟩) ⟨by omega, by omega⟩ ⟨by omega, by omega⟩ ⟨by omega, by omega⟩ (by omega) (pR.fl f (by decide +kernel))) ?_)
          rintro s274 v ⟨hG_s274, t_s274, rfl, xp_z273⟩
          have f_s274 : FL [3329, 3334, 3335, 3336, 3392, 3456, 3520, 3584] s0 s274 := f.tr t_s274 (by decide +kernel)
          have q275 : s274 179 5 = x1000 := (t_s274 179 5 (show 1350 ∉ [3329, 3334, 3335, 3336, 3392, 3456, 3520, 3584] from by decide +kernel)).trans e_x1000.symm
          have q276 : s274 180 x5.toNat = z268 := (t_s274 180 x5.toNat (show 1408 ∉ [3329, 3334, 3335, 3336, 3392, 3456, 3520, 3584] from by decide +kernel)).trans e_z268.symm
          obtain ⟨z277, e_z277⟩ : ∃ z, z = s274 244 5 := ⟨_, rfl⟩
          have g_z277 : (-2147483648) ≤ s274 244 5 ∧ s274 244 5 ≤ 2147483647 := hG_s274 244 5
          obtain ⟨z278, e_z278⟩ : ∃ z, z = s274 244 6 := ⟨_, rfl⟩
          have g_z278 : (-2147483648) ≤ s274 244 6 ∧ s274 244 6 ≤ 2147483647 := hG_s274 244 6
          obtain ⟨z279, e_z279⟩ : ∃ z, z = s274 244 7 := ⟨_, rfl⟩
          have g_z279 : (-2147483648) ≤ s274 244 7 ∧ s274 244 7 ≤ 2147483647 := hG_s274 244 7
          show xe none 16 66 [(0, .ref 244), (1, .ref 179), (2, vi x2), (3, vi x3), (4, vi x4), (5, vi x5)] [] s274 0 0 _
          refine x_iinc k16_66 (ls' := [(5, vi (x5 + 1)), (0, .ref 244), (1, .ref 179), (2, vi x2), (3, vi x3), (4, vi x4)]) rfl (by decide) rfl ?_
          refine x_goto k16_69 (t := 29) rfl ?_
          refine x_ls (l := [(0, .ref 244), (1, .ref 179), (2, vi x2), (3, vi x3), (4, vi x4), (5, vi (x5 + 1))]) (show ([0, 1, 2, 3, 4, 5] : List Nat).Nodup from by decide +kernel) ⟨rfl, rfl, rfl, rfl, rfl, rfl, trivial⟩ ?_
          exact ih s274 x2 x3 x4 (x5 + 1) x1000 z277 z278 z279 hG_s274 f_s274 (by first | exact x_rb b_x2 rfl rfl | exact ⟨by omega, by omega⟩) (by first | exact x_rb b_x3 rfl rfl | exact ⟨by omega, by omega⟩) (by first | exact x_rb b_x4 rfl rfl | exact ⟨by omega, by omega⟩) ⟨by omega, by omega⟩ (by first | exact x_rb b_x1000 rfl rfl | exact ⟨by omega, by omega⟩) (by first | exact x_rbe e_z277 g_z277 rfl rfl | exact x_rb g_z277 rfl rfl | exact ⟨by omega, by omega⟩) (by first | exact x_rbe e_z278 g_z278 rfl rfl | exact x_rb g_z278 rfl rfl | exact ⟨by omega, by omega⟩) (by first | exact x_rbe e_z279 g_z279 rfl rfl | exact x_rb g_z279 rfl rfl | exact ⟨by omega, by omega⟩) (by omega) (by omega) (by omega) (by omega) w_2 (xp_z273.1 s0 a x4 (FL.rue f (by decide)) ((CtZ.at w_2 ⟨by omega, by omega⟩ (by omega)).mp (bx.resolve_left (fun q => by omega)).2) ed5 w_3) (by omega) (by omega) (by omega) (by omega) (by omega) (q275).symm (e_z277.symm).symm (e_z278.symm).symm (e_z279.symm).symm (by omega) (by omega)
set_option maxHeartbeats 8000000 in
theorem L_E_X1_setTo_244_179_13 (s0 : xS) (hJ0 : J s0) (a : Int) (b_a : 0 ≤ a ∧ a ≤ 9) (pR : R1 s0)  : ∀ (n : Nat) (s : xS) (x2 : Int) (x3 : Int) (x4 : Int) (x1000 : Int) (x1001 : Int) (x1002 : Int) (x1003 : Int) (hG : GI s) (f : FL [3329, 3334, 3335, 3336, 3392, 3456, 3520, 3584] s0 s) (b_x2 : 0 ≤ x2 ∧ x2 ≤ 9) (b_x3 : (-2147483648) ≤ x3 ∧ x3 ≤ 2147483647) (b_x4 : 0 ≤ x4 ∧ x4 ≤ 10) (b_x1000 : 0 ≤ x1000 ∧ x1000 ≤ 8) (b_x1001 : (-2147483648) ≤ x1001 ∧ x1001 ≤ 2147483647) (b_x1002 : (-2147483648) ≤ x1002 ∧ x1002 ≤ 2147483647) (b_x1003 : (-2147483648) ≤ x1003 ∧ x1003 ≤ 2147483647) (w_0 : x1000 = s0 179 5 ∧ x1000 ≤ 8) (w_1 : x2 = a) (w_2 : CtZ s0 a x3) (w_3 : FoP s s0 244 (foF s0 a x4.toNat) (Pd s0 a x4 0 0)) (w_4 : 0 ≤ x1001 ∧ x1001 ≤ 64 * x4) (w_5 : 0 ≤ x1002 ∧ x1002 ≤ 64 * x4) (w_6 : 0 ≤ x1003 ∧ x1003 ≤ 64 * x4) (w_7 : 0 ≤ x4 ∧ x4 ≤ a + 1) (e_x1000 : x1000 = s 179 5) (e_x1001 : x1001 = s 244 5) (e_x1002 : x1002 = s 244 6) (e_x1003 : x1003 = s 244 7)  (hm : (10 - x4) < (n : Int)), xe none 16 13 [(0, .ref 244), (1, .ref 179), (2, vi x2), (3, vi x3), (4, vi x4)] [] s 0 0 (fun s' v => GI s' ∧ FL [3329, 3334, 3335, 3336, 3392, 3456, 3520, 3584] s0 s' ∧ v = none ∧ (Fo s' s0 244 a)) := by
  intro n
  induction n with
  | zero => intro s x2 x3 x4 x1000 x1001 x1002 x1003 hG f b_x2 b_x3 b_x4 b_x1000 b_x1001 b_x1002 b_x1003 w_0 w_1 w_2 w_3 w_4 w_5 w_6 w_7 e_x1000 e_x1001 e_x1002 e_x1003  hm; exfalso; omega
  | succ n ih =>
    intro s x2 x3 x4 x1000 x1001 x1002 x1003 hG f b_x2 b_x3 b_x4 b_x1000 b_x1001 b_x1002 b_x1003 w_0 w_1 w_2 w_3 w_4 w_5 w_6 w_7 e_x1000 e_x1001 e_x1002 e_x1003  hm
    refine x_A k16_13 (fun _ => rfl) ?_
    refine x_A k16_15 (fun _ => rfl) ?_
    refine x_ic_gt k16_16 (t := 78) rfl (by first | exact x_rb b_x4 rfl rfl | exact ⟨by omega, by omega⟩) (by first | exact x_rb b_x2 rfl rfl | exact ⟨by omega, by omega⟩) (fun c280 => ?_) (fun c280 => ?_)
    · skip
      exact x_vret k16_78 rfl ⟨hG, f, rfl, (FoP.fin w_3 (by omega))⟩
    · skip
      refine x_A k16_19 (fun _ => rfl) ?_
      refine x_bipush k16_21 (by decide +kernel) ?_
      refine x_ic_ge k16_23 (t := 78) rfl (by first | exact x_rb b_x4 rfl rfl | exact ⟨by omega, by omega⟩) ⟨by decide, by decide⟩ (fun c281 => by exfalso; omega) (fun c281 => ?_)
      refine x_A k16_26 (fun _ => rfl) ?_
      refine x_istore k16_27 (ls' := [(5, vi 0), (0, .ref 244), (1, .ref 179), (2, vi x2), (3, vi x3), (4, vi x4)]) (by decide) rfl ?_
      refine x_ls (l := [(0, .ref 244), (1, .ref 179), (2, vi x2), (3, vi x3), (4, vi x4), (5, vi 0)]) (show ([0, 1, 2, 3, 4, 5] : List Nat).Nodup from by decide +kernel) ⟨rfl, rfl, rfl, rfl, rfl, rfl, trivial⟩ ?_
      exact L_E_X1_setTo_244_179_29 s0 hJ0 a b_a pR n (fun s x2 x3 x4 x1000 x1001 x1002 x1003 hG f b_x2 b_x3 b_x4 b_x1000 b_x1001 b_x1002 b_x1003 w_0 w_1 w_2 w_3 w_4 w_5 w_6 w_7 e_x1000 e_x1001 e_x1002 e_x1003 hm => ih s x2 x3 x4 x1000 x1001 x1002 x1003 hG f b_x2 b_x3 b_x4 b_x1000 b_x1001 b_x1002 b_x1003 w_0 w_1 w_2 w_3 w_4 w_5 w_6 w_7 e_x1000 e_x1001 e_x1002 e_x1003  hm) (((8 - 0) + 1 : Int)).toNat s x2 x3 x4 0 x1000 x1001 x1002 x1003 hG f (by first | exact x_rb b_x2 rfl rfl | exact ⟨by omega, by omega⟩) (by first | exact x_rb b_x3 rfl rfl | exact ⟨by omega, by omega⟩) (by first | exact x_rb b_x4 rfl rfl | exact ⟨by omega, by omega⟩) ⟨by decide, by decide⟩ (by first | exact x_rb b_x1000 rfl rfl | exact ⟨by omega, by omega⟩) (by first | exact x_rb b_x1001 rfl rfl | exact ⟨by omega, by omega⟩) (by first | exact x_rb b_x1002 rfl rfl | exact ⟨by omega, by omega⟩) (by first | exact x_rb b_x1003 rfl rfl | exact ⟨by omega, by omega⟩) (by omega) (by omega) (by omega) (by omega) w_2 w_3 (by omega) (by omega) (by omega) (by omega) (by omega) (e_x1000.symm).symm (e_x1001.symm).symm (e_x1002.symm).symm (e_x1003.symm).symm (by omega) (by omega)
set_option maxHeartbeats 8000000 in
theorem E_X1_setTo_244_179 (s0 : xS) (hG0 : GI s0) (hJ0 : J s0) (a : Int) (b_a : 0 ≤ a ∧ a ≤ 9) (pR : R1 s0) : xe none 16 0 (lv_args 0 [.ref 244, .ref 179, vi a]) [] s0 0 0 (fun s' v => GI s' ∧ FL [3329, 3334, 3335, 3336, 3392, 3456, 3520, 3584] s0 s' ∧ v = none ∧ (Fo s' s0 244 a)) := by
  have f0 : FL [3329, 3334, 3335, 3336, 3392, 3456, 3520, 3584] s0 s0 := FL.rf
  show xe none 16 0 [(0, .ref 244), (1, .ref 179), (2, vi a)] [] s0 0 0 _
  have r8 := pR.1
  refine x_A k16_0 (fun _ => rfl) ?_
  refine x_callV k16_1 (y := 15) (n := 0) (w0 := 0) (w1 := 0) (as := []) (rest := []) (by decide +kernel) (q := 244) (nq := 8) (kq := 14) ⟨by decide, rfl⟩ rfl rfl rfl rfl (xe_mono (E_X1_clear_244 s0 hG0) ?_)
  rintro s283 v ⟨hG_s283, t_s283, rfl, xp_z282⟩
  have f_s283 : FL [3329, 3334, 3335, 3336, 3392, 3456, 3520, 3584] s0 s283 := f0.tr t_s283 (by decide +kernel)
  obtain ⟨z284, e_z284⟩ : ∃ z, z = s283 244 0 := ⟨_, rfl⟩
  have g_z284 : (-2147483648) ≤ s283 244 0 ∧ s283 244 0 ≤ 2147483647 := hG_s283 244 0
  obtain ⟨z285, e_z285⟩ : ∃ z, z = s283 244 5 := ⟨_, rfl⟩
  have g_z285 : (-2147483648) ≤ s283 244 5 ∧ s283 244 5 ≤ 2147483647 := hG_s283 244 5
  obtain ⟨z286, e_z286⟩ : ∃ z, z = s283 244 6 := ⟨_, rfl⟩
  have g_z286 : (-2147483648) ≤ s283 244 6 ∧ s283 244 6 ≤ 2147483647 := hG_s283 244 6
  obtain ⟨z287, e_z287⟩ : ∃ z, z = s283 244 7 := ⟨_, rfl⟩
  have g_z287 : (-2147483648) ≤ s283 244 7 ∧ s283 244 7 ≤ 2147483647 := hG_s283 244 7
  show xe none 16 4 [(0, .ref 244), (1, .ref 179), (2, vi a)] [] s283 0 0 _
  refine x_A k16_4 (fun _ => rfl) ?_
  refine x_A k16_5 (fun _ => rfl) ?_
  refine x_callV k16_6 (y := 41) (n := 1) (w0 := 0) (w1 := 1) (as := [vi a]) (rest := []) (by decide +kernel) (q := 179) (nq := 6) (kq := 8) ⟨by decide, rfl⟩ rfl rfl rfl rfl (xe_mono (E_X4_counting_179 s283 hG_s283 (hJ0.fl f_s283 (by decide +kernel)) a (by first | exact x_rb b_a rfl rfl | exact ⟨by omega, by omega⟩) (pR.fl f_s283 (by decide +kernel))) ?_)
  rintro s289 v ⟨-, t_s289, z288, rfl, g_z288, xp_z288⟩
  rw [t_s289.nil]
  try rw [t_s289.nil] at xp_z288
  show xe none 16 9 [(0, .ref 244), (1, .ref 179), (2, vi a)] [vi z288] s283 0 0 _
  have cz : CtZ s0 a z288 := CtZ.cg xp_z288 (FL.rue f_s283 (by decide)) (by omega)
  have e95_ : s283 179 5 = s0 179 5 := f_s283 179 5 (show 1350 ∉ [3329, 3334, 3335, 3336, 3392, 3456, 3520, 3584] from by decide +kernel)
  refine x_istore_n k16_9 (ls' := [(3, vi z288), (0, .ref 244), (1, .ref 179), (2, vi a)]) (by decide) rfl ?_
  refine x_A k16_10 (fun _ => rfl) ?_
  refine x_istore k16_11 (ls' := [(4, vi 0), (3, vi z288), (0, .ref 244), (1, .ref 179), (2, vi a)]) (by decide) rfl ?_
  obtain ⟨z290, e_z290⟩ : ∃ z, z = s283 179 5 := ⟨_, rfl⟩
  have g_z290 : (0 : Int) ≤ s283 179 5 ∧ s283 179 5 ≤ 8 := hG_s283 179 5
  refine x_ls (l := [(0, .ref 244), (1, .ref 179), (2, vi a), (3, vi z288), (4, vi 0)]) (show ([0, 1, 2, 3, 4] : List Nat).Nodup from by decide +kernel) ⟨rfl, rfl, rfl, rfl, rfl, trivial⟩ ?_
  exact L_E_X1_setTo_244_179_13 s0 hJ0 a b_a pR  (((10 - 0) + 1 : Int)).toNat s283 a z288 0 z290 z285 z286 z287 hG_s283 f_s283 (by first | exact x_rb b_a rfl rfl | exact ⟨by omega, by omega⟩) (by first | exact x_rbe e_z288 g_z288 rfl rfl | exact x_rb g_z288 rfl rfl | exact ⟨by omega, by omega⟩) ⟨by decide, by decide⟩ (by first | exact x_rbe e_z290 g_z290 rfl rfl | exact x_rb g_z290 rfl rfl | exact ⟨by omega, by omega⟩) (by first | exact x_rbe e_z285 g_z285 rfl rfl | exact x_rb g_z285 rfl rfl | exact ⟨by omega, by omega⟩) (by first | exact x_rbe e_z286 g_z286 rfl rfl | exact x_rb g_z286 rfl rfl | exact ⟨by omega, by omega⟩) (by first | exact x_rbe e_z287 g_z287 rfl rfl | exact x_rb g_z287 rfl rfl | exact ⟨by omega, by omega⟩) (by omega) (by omega) cz (FoP.begin (fun r _ _ => (show (0 : Int) ≤ s0 180 r.toNat ∧ s0 180 r.toNat ≤ 9 from hG0 180 r.toNat).1) xp_z282.1 xp_z282.2.1 xp_z282.2.2.1 xp_z282.2.2.2.1 xp_z282.2.2.2.2.1 xp_z282.2.2.2.2.2.1 xp_z282.2.2.2.2.2.2.1 xp_z282.2.2.2.2.2.2.2) (by omega) (by omega) (by omega) (by omega) (e_z290.symm).symm (e_z285.symm).symm (e_z286.symm).symm (e_z287.symm).symm  (by omega)
