set_option maxHeartbeats 8000000 in
theorem E_X4_readClause_179_177 (s0 : xS) (hG0 : GI s0) (a : Int) (b_a : 0 ≤ a ∧ a ≤ 8) (p_179_5 : 0 ≤ s0 179 5 ∧ s0 179 5 ≤ 7) (i0_J : J s0) (i0_Nc : NRr s0 (s0 179 5) a) (i0_TK : TKs s0) (i0_RK : RKp s0 s0 (s0 179 5) a) : xe none 37 0 (lv_args 0 [.ref 179, .ref 177, vi a]) [] s0 0 0 (fun s' v => GI s' ∧ FL [1219, 1220, 1221, 1222, 1223, 1600, 1728, 1856] s0 s' ∧ v = none ∧ ((s' 177 5 = 0 → s0 177 5 = 0 ∧ a < 8 ∧ NRr s' (s0 179 5) (a + 1)) ∧ (s0 177 5 = 0 → ClC s0 s' a)) ∧ J s' ∧ NRr s' (s0 179 5) a ∧ TKs s' ∧ RKp s' s0 (s0 179 5) a) := by
  have f0 : FL [1219, 1220, 1221, 1222, 1223, 1600, 1728, 1856] s0 s0 := FL.rf
  show xe none 37 0 [(0, .ref 179), (1, .ref 177), (2, vi a)] [] s0 0 0 _
  obtain ⟨z1, e_z1⟩ : ∃ z, z = s0 179 5 := ⟨_, rfl⟩
  have g_z1 : (0 : Int) ≤ s0 179 5 ∧ s0 179 5 ≤ 8 := hG0 179 5
  have tk := i0_TK
  unfold TKs TK at tk
  have tl := te_le (T := s0 178) (n := s0 177 1) (p := s0 177 3)
  obtain ⟨z2, e_z2⟩ : ∃ z, z = s0 177 1 := ⟨_, rfl⟩
  have g_z2 : (0 : Int) ≤ s0 177 1 ∧ s0 177 1 ≤ 160 := hG0 177 1
  obtain ⟨z3, e_z3⟩ : ∃ z, z = s0 177 3 := ⟨_, rfl⟩
  have g_z3 : (0 : Int) ≤ s0 177 3 ∧ s0 177 3 ≤ 160 := hG0 177 3
  obtain ⟨z4, e_z4⟩ : ∃ z, z = s0 177 5 := ⟨_, rfl⟩
  have g_z4 : (0 : Int) ≤ s0 177 5 ∧ s0 177 5 ≤ 5 := hG0 177 5
  obtain ⟨z5, e_z5⟩ : ∃ z, z = s0 177 6 := ⟨_, rfl⟩
  have g_z5 : (-2147483648) ≤ s0 177 6 ∧ s0 177 6 ≤ 2147483647 := hG0 177 6
  refine x_A k37_0 (fun _ => rfl) ?_
  refine x_callS k37_1 (y := 36) (n := 1) (w0 := 0) (w1 := 1) (as := [.ref 177]) (rest := []) (by decide +kernel) rfl rfl rfl rfl (xe_mono (E_X4_clauseKind_177 s0 hG0 i0_TK) ?_)
  rintro s7 v ⟨-, t_s7, z6, rfl, g_z6, xp_z6⟩
  rw [t_s7.nil]
  try rw [t_s7.nil] at xp_z6
  show xe none 37 4 [(0, .ref 179), (1, .ref 177), (2, vi a)] [vi z6] s0 0 0 _
  refine x_istore_n k37_4 (ls' := [(3, vi z6), (0, .ref 179), (1, .ref 177), (2, vi a)]) (by decide) rfl ?_
  refine x_A k37_5 (fun _ => rfl) ?_
  refine x_A k37_6 (fun _ => rfl) ?_
  refine x_ic_ne k37_7 (t := 19) rfl (by first | exact x_rbe e_z6 g_z6 rfl rfl | exact x_rb g_z6 rfl rfl | exact ⟨by omega, by omega⟩) ⟨by decide, by decide⟩ (fun c8 => ?_) (fun c8 => ?_)
  · skip
    refine x_A k37_19 (fun _ => rfl) ?_
    refine x_bipush k37_20 (by decide +kernel) ?_
    refine x_ic_lt k37_22 (t := 34) rfl (by first | exact x_rb b_a rfl rfl | exact ⟨by omega, by omega⟩) ⟨by decide, by decide⟩ (fun c9 => ?_) (fun c9 => ?_)
    · skip
      refine x_A k37_34 (fun _ => rfl) ?_
      refine x_getI k37_35 (f := 5) rfl (q := 177) (n := 7) (kd := 7) ⟨by decide, rfl⟩ (by decide) rfl ?_
      refine x_rw (e_z4.symm) ?_
      refine x_if_eq k37_38 (t := 42) rfl (by first | exact x_rbe e_z4 g_z4 rfl rfl | exact x_rb g_z4 rfl rfl | exact ⟨by omega, by omega⟩) (fun c10 => ?_) (fun c10 => ?_)
      · skip
        refine x_A k37_42 (fun _ => rfl) ?_
        obtain ⟨z11, e_z11⟩ : ∃ z, z = s0 177 4 := ⟨_, rfl⟩
        have g_z11 : (0 : Int) ≤ s0 177 4 ∧ s0 177 4 ≤ 160 := hG0 177 4
        refine x_callV k37_43 (y := 51) (n := 0) (w0 := 0) (w1 := 0) (as := []) (rest := []) (by decide +kernel) (q := 177) (nq := 7) (kq := 7) ⟨by decide, rfl⟩ rfl rfl rfl rfl (xe_mono (E_X6_advance_177 s0 hG0 (by omega)) ?_)
        rintro s13 v ⟨hG_s13, t_s13, rfl, xp_z12⟩
        have f_s13 : FL [1219, 1220, 1221, 1222, 1223, 1600, 1728, 1856] s0 s13 := f0.tr t_s13 (by decide +kernel)
        have q14 : s13 179 5 = z1 := (t_s13 179 5 (show 1350 ∉ [1219, 1220, 1221] from by decide +kernel)).trans e_z1.symm
        have q15 : s13 177 1 = z2 := (t_s13 177 1 (show 1218 ∉ [1219, 1220, 1221] from by decide +kernel)).trans e_z2.symm
        have q16 : s13 177 5 = z4 := (t_s13 177 5 (show 1222 ∉ [1219, 1220, 1221] from by decide +kernel)).trans e_z4.symm
        have q17 : s13 177 6 = z5 := (t_s13 177 6 (show 1223 ∉ [1219, 1220, 1221] from by decide +kernel)).trans e_z5.symm
        have J_s13 : J s13 := J.fl i0_J t_s13 (by decide +kernel)
        have Nc_s13 : NRr s13 (s0 179 5) a := NRr.fl i0_Nc t_s13 (by decide +kernel)
        have RK_s13 : RKp s13 s0 (s0 179 5) a := RKp.fl i0_RK t_s13 (by decide +kernel)
        show xe none 37 46 [(3, vi z6), (0, .ref 179), (1, .ref 177), (2, vi a)] [] s13 0 0 _
        have tq18 := xp_z12
        rw [show s0 177 4 = te (s0 178) (s0 177 1) (s0 177 3) by omega] at tq18
        have TK_s13 : TKs s13 := TK.s tq18 (show s13 178 = s0 178 from funext fun i => f_s13 178 i (show 1280 ∉ [1219, 1220, 1221, 1222, 1223, 1600, 1728, 1856] from by decide +kernel)) (by omega)
        unfold TK at tq18
        obtain ⟨z19, e_z19⟩ : ∃ z, z = s13 177 3 := ⟨_, rfl⟩
        have g_z19 : (0 : Int) ≤ s13 177 3 ∧ s13 177 3 ≤ 160 := hG_s13 177 3
        have p1 : s13 177 3 = nx (s0 178) (s0 177 1) (s0 177 3) := by unfold nx; omega
        refine x_A k37_46 (fun _ => rfl) ?_
        refine x_getI k37_47 (f := 3) rfl (q := 177) (n := 7) (kd := 7) ⟨by decide, rfl⟩ (by decide) rfl ?_
        refine x_rw (e_z19.symm) ?_
        refine x_istore k37_50 (ls' := [(4, vi z19), (3, vi z6), (0, .ref 179), (1, .ref 177), (2, vi a)]) (by decide) rfl ?_
        refine x_A k37_52 (fun _ => rfl) ?_
        refine x_getR k37_53 (f := 2) rfl (q := 179) (n := 6) (kd := 8) ⟨by decide, rfl⟩ (q2 := 182) (by decide) rfl ?_
        refine x_A k37_56 (fun _ => rfl) ?_
        refine x_getI k37_57 (f := 5) rfl (q := 179) (n := 6) (kd := 8) ⟨by decide, rfl⟩ (by decide) rfl ?_
        refine x_rw (q14) ?_
        refine x_aald k37_60 (q := 182) (t := 23) (n := 8) ⟨by decide, rfl⟩ (by decide) (by decide) ⟨by omega, by omega⟩ ?_
        refine x_A k37_61 (fun _ => rfl) ?_
        refine x_A k37_62 (fun _ => rfl) ?_
        refine x_iast k37_63 (q := (182 + 1 + z1.toNat)) (n := 8) (xg_183 (by omega) (by omega)) (by decide) (by first | exact x_rbl b_a rfl rfl | exact ⟨by omega, by omega⟩) ?_
        refine x_nh (fun s20 e_s20 => ?_)
        have w21 := gr_183 a.toNat (show 183 ≤ (182 + 1 + z1.toNat) by omega) (by omega)
        have hG_s20 : GI s20 := by rw [e_s20]; exact hG_s13.up (by rw [w21.1, w21.2.1]; exact (show (-1) ≤ z6 ∧ z6 ≤ 6 from (by first | exact x_rbe e_z6 g_z6 rfl rfl | exact x_rb g_z6 rfl rfl | exact ⟨by omega, by omega⟩)))
        have f_s20 : FL [1219, 1220, 1221, 1222, 1223, 1600, 1728, 1856] s0 s20 := by rw [e_s20]; exact f_s13.up (by rw [w21.2.2]; decide)
        have q22 : s20 179 5 = z1 := by rw [e_s20, x_up_q (by omega)]; exact q14
        have q23 : s20 177 1 = z2 := by rw [e_s20, x_up_q (by omega)]; exact q15
        have q24 : s20 177 5 = z4 := by rw [e_s20, x_up_q (by omega)]; exact q16
        have q25 : s20 177 6 = z5 := by rw [e_s20, x_up_q (by omega)]; exact q17
        have q26 : s20 177 3 = z19 := by rw [e_s20, x_up_q (by omega)]; exact e_z19.symm
        have q27 : s20 (182 + 1 + z1.toNat) a.toNat = z6 := by rw [e_s20]; exact x_up_same
        have J_s20 : J s20 := by rw [e_s20]; exact J.st J_s13 (q14).symm ⟨by omega, by omega⟩ (Or.inl rfl)
        have Nc_s20 : NRr s20 (s0 179 5) a := by rw [e_s20]; exact NRr.st Nc_s13 (by omega)
        have TK_s20 : TKs s20 := by rw [e_s20]; exact TKs.up TK_s13 (by rw [w21.2.2]; decide)
        have RK_s20 : RKp s20 s0 (s0 179 5) a := by rw [e_s20]; exact RKp.st RK_s13 (by omega)
        refine x_A k37_64 (fun _ => rfl) ?_
        refine x_getR k37_65 (f := 3) rfl (q := 179) (n := 6) (kd := 8) ⟨by decide, rfl⟩ (q2 := 191) (by decide) rfl ?_
        refine x_A k37_68 (fun _ => rfl) ?_
        refine x_getI k37_69 (f := 5) rfl (q := 179) (n := 6) (kd := 8) ⟨by decide, rfl⟩ (by decide) rfl ?_
        refine x_rw (q22) ?_
        refine x_aald k37_72 (q := 191) (t := 23) (n := 8) ⟨by decide, rfl⟩ (by decide) (by decide) ⟨by omega, by omega⟩ ?_
        refine x_A k37_73 (fun _ => rfl) ?_
        refine x_A k37_74 (fun _ => rfl) ?_
        refine x_A k37_75 (fun _ => rfl) ?_
        refine x_callS k37_76 (y := 38) (n := 2) (w0 := 2) (w1 := 2) (as := [.ref 177, vi z6]) (rest := [vi a, .ref (191 + 1 + z1.toNat)]) (by decide +kernel) rfl rfl rfl rfl (xe_mono (E_X4_readFirst_177 s20 hG_s20 z6 (by first | exact x_rbe e_z6 g_z6 rfl rfl | exact x_rb g_z6 rfl rfl | exact ⟨by omega, by omega⟩) TK_s20) ?_)
        rintro s29 v ⟨hG_s29, t_s29, z28, rfl, g_z28, xp_z28, TK_s29⟩
        have f_s29 : FL [1219, 1220, 1221, 1222, 1223, 1600, 1728, 1856] s0 s29 := f_s20.tr t_s29 (by decide +kernel)
        have q30 : s29 179 5 = z1 := (t_s29 179 5 (show 1350 ∉ [1219, 1220, 1221, 1222, 1223] from by decide +kernel)).trans q22
        have q31 : s29 177 1 = z2 := (t_s29 177 1 (show 1218 ∉ [1219, 1220, 1221, 1222, 1223] from by decide +kernel)).trans q23
        have q32 : s29 (182 + 1 + z1.toNat) a.toNat = z6 := (t_s29 (182 + 1 + z1.toNat) a.toNat (by rw [(gr_183 a.toNat (show 183 ≤ (182 + 1 + z1.toNat) by omega) (by omega)).2.2]; decide)).trans q27
        have J_s29 : J s29 := J.fl J_s20 t_s29 (by decide +kernel)
        have Nc_s29 : NRr s29 (s0 179 5) a := NRr.fl Nc_s20 t_s29 (by decide +kernel)
        have RK_s29 : RKp s29 s0 (s0 179 5) a := RKp.fl RK_s20 t_s29 (by decide +kernel)
        obtain ⟨z33, e_z33⟩ : ∃ z, z = s29 177 5 := ⟨_, rfl⟩
        have g_z33 : (0 : Int) ≤ s29 177 5 ∧ s29 177 5 ≤ 5 := hG_s29 177 5
        show xe none 37 79 [(4, vi z19), (3, vi z6), (0, .ref 179), (1, .ref 177), (2, vi a)] [vi z28, vi a, .ref (191 + 1 + z1.toNat)] s29 0 0 _
        obtain ⟨z34, e_z34⟩ : ∃ z, z = s29 177 3 := ⟨_, rfl⟩
        have g_z34 : (0 : Int) ≤ s29 177 3 ∧ s29 177 3 ≤ 160 := hG_s29 177 3
        obtain ⟨z35, e_z35⟩ : ∃ z, z = s29 177 6 := ⟨_, rfl⟩
        have g_z35 : (-2147483648) ≤ s29 177 6 ∧ s29 177 6 ≤ 2147483647 := hG_s29 177 6
        have r1 := xp_z28.1
        unfold FrC at r1
        rw [show s20 178 = s0 178 from funext fun i => f_s20 178 i (show 1280 ∉ [1219, 1220, 1221, 1222, 1223, 1600, 1728, 1856] from by decide +kernel), show s20 177 1 = s0 177 1 from f_s20 177 1 (show 1218 ∉ [1219, 1220, 1221, 1222, 1223, 1600, 1728, 1856] from by decide +kernel), show s20 177 3 = nx (s0 178) (s0 177 1) (s0 177 3) by omega, show s20 177 5 = 0 by omega, show s20 177 6 = s0 177 6 by omega, show s29 177 3 = z34 by omega, show s29 177 5 = z33 by omega, show s29 177 6 = z35 by omega] at r1
        refine x_iast k37_79 (q := (191 + 1 + z1.toNat)) (n := 8) (xg_192 (by omega) (by omega)) (by decide) (by first | exact x_rbl b_a rfl rfl | exact ⟨by omega, by omega⟩) ?_
        refine x_nh (fun s36 e_s36 => ?_)
        have w37 := gr_192 a.toNat (show 192 ≤ (191 + 1 + z1.toNat) by omega) (by omega)
        have hG_s36 : GI s36 := by rw [e_s36]; exact hG_s29.up (by rw [w37.1, w37.2.1]; exact (show (-1) ≤ z28 ∧ z28 ≤ 99 from (by first | exact x_rbe e_z28 g_z28 rfl rfl | exact x_rb g_z28 rfl rfl | exact ⟨by omega, by omega⟩)))
        have f_s36 : FL [1219, 1220, 1221, 1222, 1223, 1600, 1728, 1856] s0 s36 := by rw [e_s36]; exact f_s29.up (by rw [w37.2.2]; decide)
        have q38 : s36 179 5 = z1 := by rw [e_s36, x_up_q (by omega)]; exact q30
        have q39 : s36 177 1 = z2 := by rw [e_s36, x_up_q (by omega)]; exact q31
        have q40 : s36 177 5 = z33 := by rw [e_s36, x_up_q (by omega)]; exact e_z33.symm
        have q41 : s36 177 3 = z34 := by rw [e_s36, x_up_q (by omega)]; exact e_z34.symm
        have q42 : s36 177 6 = z35 := by rw [e_s36, x_up_q (by omega)]; exact e_z35.symm
        have q43 : s36 (182 + 1 + z1.toNat) a.toNat = z6 := by rw [e_s36, x_up_q (by omega)]; exact q32
        have q44 : s36 (191 + 1 + z1.toNat) a.toNat = z28 := by rw [e_s36]; exact x_up_same
        have J_s36 : J s36 := by rw [e_s36]; exact J.st J_s29 (q30).symm ⟨by omega, by omega⟩ (Or.inr (Or.inl rfl))
        have Nc_s36 : NRr s36 (s0 179 5) a := by rw [e_s36]; exact NRr.st Nc_s29 (by omega)
        have TK_s36 : TKs s36 := by rw [e_s36]; exact TKs.up TK_s29 (by rw [w37.2.2]; decide)
        have RK_s36 : RKp s36 s0 (s0 179 5) a := by rw [e_s36]; exact RKp.st RK_s29 (by omega)
        refine x_A k37_80 (fun _ => rfl) ?_
        refine x_bipush k37_81 (by decide +kernel) ?_
        refine x_ic_ne k37_83 (t := 111) rfl (by first | exact x_rbe e_z6 g_z6 rfl rfl | exact x_rb g_z6 rfl rfl | exact ⟨by omega, by omega⟩) ⟨by decide, by decide⟩ (fun c45 => ?_) (fun c45 => ?_)
        · skip
          refine x_A k37_111 (fun _ => rfl) ?_
          refine x_getR k37_112 (f := 4) rfl (q := 179) (n := 6) (kd := 8) ⟨by decide, rfl⟩ (q2 := 200) (by decide) rfl ?_
          refine x_A k37_115 (fun _ => rfl) ?_
          refine x_getI k37_116 (f := 5) rfl (q := 179) (n := 6) (kd := 8) ⟨by decide, rfl⟩ (by decide) rfl ?_
          refine x_rw (q38) ?_
          refine x_aald k37_119 (q := 200) (t := 23) (n := 8) ⟨by decide, rfl⟩ (by decide) (by decide) ⟨by omega, by omega⟩ ?_
          refine x_A k37_120 (fun _ => rfl) ?_
          refine x_A k37_121 (fun _ => rfl) ?_
          refine x_A k37_122 (fun _ => rfl) ?_
          have rs : (z6 = 6 → s0 179 5 ≤ z28 → (z33 ≠ 0 ∧ z33 = z33 ∧ z35 = z35) ∨ (z33 = 0 ∧ z33 = 3 ∧ z35 = nx (s0 178) (s0 177 1) (s0 177 3))) ∧ (¬ (z6 = 6 ∧ s0 179 5 ≤ z28) → z33 = z33 ∧ z35 = z35) := ⟨fun e1 e2 => by omega, fun e1 => by omega⟩
          refine x_callS k37_123 (y := 39) (n := 2) (w0 := 2) (w1 := 2) (as := [.ref 177, vi z6]) (rest := [vi a, .ref (200 + 1 + z1.toNat)]) (by decide +kernel) rfl rfl rfl rfl (xe_mono (E_X4_readSecond_177 s36 hG_s36 z6 (by first | exact x_rbe e_z6 g_z6 rfl rfl | exact x_rb g_z6 rfl rfl | exact ⟨by omega, by omega⟩) TK_s36) ?_)
          rintro s47 v ⟨hG_s47, t_s47, z46, rfl, g_z46, xp_z46, TK_s47⟩
          have f_s47 : FL [1219, 1220, 1221, 1222, 1223, 1600, 1728, 1856] s0 s47 := f_s36.tr t_s47 (by decide +kernel)
          have q48 : s47 179 5 = z1 := (t_s47 179 5 (show 1350 ∉ [1219, 1220, 1221, 1222, 1223] from by decide +kernel)).trans q38
          have q49 : s47 177 1 = z2 := (t_s47 177 1 (show 1218 ∉ [1219, 1220, 1221, 1222, 1223] from by decide +kernel)).trans q39
          have q50 : s47 (182 + 1 + z1.toNat) a.toNat = z6 := (t_s47 (182 + 1 + z1.toNat) a.toNat (by rw [(gr_183 a.toNat (show 183 ≤ (182 + 1 + z1.toNat) by omega) (by omega)).2.2]; decide)).trans q43
          have q51 : s47 (191 + 1 + z1.toNat) a.toNat = z28 := (t_s47 (191 + 1 + z1.toNat) a.toNat (by rw [(gr_192 a.toNat (show 192 ≤ (191 + 1 + z1.toNat) by omega) (by omega)).2.2]; decide)).trans q44
          have J_s47 : J s47 := J.fl J_s36 t_s47 (by decide +kernel)
          have Nc_s47 : NRr s47 (s0 179 5) a := NRr.fl Nc_s36 t_s47 (by decide +kernel)
          have RK_s47 : RKp s47 s0 (s0 179 5) a := RKp.fl RK_s36 t_s47 (by decide +kernel)
          obtain ⟨z52, e_z52⟩ : ∃ z, z = s47 177 3 := ⟨_, rfl⟩
          have g_z52 : (0 : Int) ≤ s47 177 3 ∧ s47 177 3 ≤ 160 := hG_s47 177 3
          obtain ⟨z53, e_z53⟩ : ∃ z, z = s47 177 5 := ⟨_, rfl⟩
          have g_z53 : (0 : Int) ≤ s47 177 5 ∧ s47 177 5 ≤ 5 := hG_s47 177 5
          obtain ⟨z54, e_z54⟩ : ∃ z, z = s47 177 6 := ⟨_, rfl⟩
          have g_z54 : (-2147483648) ≤ s47 177 6 ∧ s47 177 6 ≤ 2147483647 := hG_s47 177 6
          show xe none 37 126 [(4, vi z19), (3, vi z6), (0, .ref 179), (1, .ref 177), (2, vi a)] [vi z46, vi a, .ref (200 + 1 + z1.toNat)] s47 0 0 _
          have r2 := xp_z46.1
          unfold SeC at r2
          rw [show s36 178 = s0 178 from funext fun i => f_s36 178 i (show 1280 ∉ [1219, 1220, 1221, 1222, 1223, 1600, 1728, 1856] from by decide +kernel), show s36 177 1 = s0 177 1 from f_s36 177 1 (show 1218 ∉ [1219, 1220, 1221, 1222, 1223, 1600, 1728, 1856] from by decide +kernel), show s36 177 3 = z34 by omega, show s36 177 5 = z33 by omega, show s36 177 6 = z35 by omega, show s47 177 3 = z52 by omega, show s47 177 5 = z53 by omega, show s47 177 6 = z54 by omega] at r2
          refine x_iast k37_126 (q := (200 + 1 + z1.toNat)) (n := 8) (xg_201 (by omega) (by omega)) (by decide) (by first | exact x_rbl b_a rfl rfl | exact ⟨by omega, by omega⟩) ?_
          refine x_nh (fun s55 e_s55 => ?_)
          have w56 := gr_201 a.toNat (show 201 ≤ (200 + 1 + z1.toNat) by omega) (by omega)
          have hG_s55 : GI s55 := by rw [e_s55]; exact hG_s47.up (by rw [w56.1, w56.2.1]; exact (show (-1) ≤ z46 ∧ z46 ≤ 99 from (by first | exact x_rbe e_z46 g_z46 rfl rfl | exact x_rb g_z46 rfl rfl | exact ⟨by omega, by omega⟩)))
          have f_s55 : FL [1219, 1220, 1221, 1222, 1223, 1600, 1728, 1856] s0 s55 := by rw [e_s55]; exact f_s47.up (by rw [w56.2.2]; decide)
          have q57 : s55 179 5 = z1 := by rw [e_s55, x_up_q (by omega)]; exact q48
          have q58 : s55 177 1 = z2 := by rw [e_s55, x_up_q (by omega)]; exact q49
          have q59 : s55 177 3 = z52 := by rw [e_s55, x_up_q (by omega)]; exact e_z52.symm
          have q60 : s55 177 5 = z53 := by rw [e_s55, x_up_q (by omega)]; exact e_z53.symm
          have q61 : s55 177 6 = z54 := by rw [e_s55, x_up_q (by omega)]; exact e_z54.symm
          have q62 : s55 (182 + 1 + z1.toNat) a.toNat = z6 := by rw [e_s55, x_up_q (by omega)]; exact q50
          have q63 : s55 (191 + 1 + z1.toNat) a.toNat = z28 := by rw [e_s55, x_up_q (by omega)]; exact q51
          have q64 : s55 (200 + 1 + z1.toNat) a.toNat = z46 := by rw [e_s55]; exact x_up_same
          have J_s55 : J s55 := by rw [e_s55]; exact J.st J_s47 (q48).symm ⟨by omega, by omega⟩ (Or.inr (Or.inr rfl))
          have Nc_s55 : NRr s55 (s0 179 5) a := by rw [e_s55]; exact NRr.st Nc_s47 (by omega)
          have TK_s55 : TKs s55 := by rw [e_s55]; exact TKs.up TK_s47 (by rw [w56.2.2]; decide)
          have RK_s55 : RKp s55 s0 (s0 179 5) a := by rw [e_s55]; exact RKp.st RK_s47 (by omega)
          refine x_A k37_127 (fun _ => rfl) ?_
          refine x_bipush k37_128 (by decide +kernel) ?_
          refine x_callV k37_130 (y := 56) (n := 1) (w0 := 0) (w1 := 1) (as := [vi 59]) (rest := []) (by decide +kernel) (q := 177) (nq := 7) (kq := 7) ⟨by decide, rfl⟩ rfl rfl rfl rfl (xe_mono (E_X6_takeSign_177 s55 hG_s55 59 ⟨by decide, by decide⟩ (by omega) TK_s55) ?_)
          rintro s66 v ⟨hG_s66, t_s66, rfl, xp_z65, TK_s66⟩
          have f_s66 : FL [1219, 1220, 1221, 1222, 1223, 1600, 1728, 1856] s0 s66 := f_s55.tr t_s66 (by decide +kernel)
          have q67 : s66 179 5 = z1 := (t_s66 179 5 (show 1350 ∉ [1219, 1220, 1221, 1222, 1223] from by decide +kernel)).trans q57
          have q68 : s66 177 1 = z2 := (t_s66 177 1 (show 1218 ∉ [1219, 1220, 1221, 1222, 1223] from by decide +kernel)).trans q58
          have q69 : s66 (182 + 1 + z1.toNat) a.toNat = z6 := (t_s66 (182 + 1 + z1.toNat) a.toNat (by rw [(gr_183 a.toNat (show 183 ≤ (182 + 1 + z1.toNat) by omega) (by omega)).2.2]; decide)).trans q62
          have q70 : s66 (191 + 1 + z1.toNat) a.toNat = z28 := (t_s66 (191 + 1 + z1.toNat) a.toNat (by rw [(gr_192 a.toNat (show 192 ≤ (191 + 1 + z1.toNat) by omega) (by omega)).2.2]; decide)).trans q63
          have q71 : s66 (200 + 1 + z1.toNat) a.toNat = z46 := (t_s66 (200 + 1 + z1.toNat) a.toNat (by rw [(gr_201 a.toNat (show 201 ≤ (200 + 1 + z1.toNat) by omega) (by omega)).2.2]; decide)).trans q64
          have J_s66 : J s66 := J.fl J_s55 t_s66 (by decide +kernel)
          have Nc_s66 : NRr s66 (s0 179 5) a := NRr.fl Nc_s55 t_s66 (by decide +kernel)
          have RK_s66 : RKp s66 s0 (s0 179 5) a := RKp.fl RK_s55 t_s66 (by decide +kernel)
          obtain ⟨z72, e_z72⟩ : ∃ z, z = s66 177 3 := ⟨_, rfl⟩
          have g_z72 : (0 : Int) ≤ s66 177 3 ∧ s66 177 3 ≤ 160 := hG_s66 177 3
          obtain ⟨z73, e_z73⟩ : ∃ z, z = s66 177 5 := ⟨_, rfl⟩
          have g_z73 : (0 : Int) ≤ s66 177 5 ∧ s66 177 5 ≤ 5 := hG_s66 177 5
          obtain ⟨z74, e_z74⟩ : ∃ z, z = s66 177 6 := ⟨_, rfl⟩
          have g_z74 : (-2147483648) ≤ s66 177 6 ∧ s66 177 6 ≤ 2147483647 := hG_s66 177 6
          show xe none 37 133 [(4, vi z19), (3, vi z6), (0, .ref 179), (1, .ref 177), (2, vi a)] [] s66 0 0 _
          have r3 := xp_z65.1
          unfold TwC at r3
          rw [show s55 178 = s0 178 from funext fun i => f_s55 178 i (show 1280 ∉ [1219, 1220, 1221, 1222, 1223, 1600, 1728, 1856] from by decide +kernel), show s55 177 1 = s0 177 1 from f_s55 177 1 (show 1218 ∉ [1219, 1220, 1221, 1222, 1223, 1600, 1728, 1856] from by decide +kernel), show s55 177 3 = z52 by omega, show s55 177 5 = z53 by omega, show s55 177 6 = z54 by omega, show s66 177 3 = z72 by omega, show s66 177 5 = z73 by omega, show s66 177 6 = z74 by omega] at r3
          exact x_vret k37_133 rfl ⟨hG_s66, f_s66, rfl, ⟨(fun hz => ⟨by omega, by omega, NRr.add Nc_s66 (k := z6) (a := z28) (b := z46) (by omega) (by rw [← e_z1]; exact q69) (by rw [← e_z1]; exact q70) (by rw [← e_z1]; exact q71) (by omega)⟩), fun h0 => (cl_fin (T := s0 178) (n := s0 177 1) (p := s0 177 3) (i := a) (R := s0 179 5) (k := z6) (g0 := s0 177 6) (z1 := z28) (z2 := z46) (by omega) (by omega) (by omega) r1 rs (by omega) r2 r3).elim (fun u => Or.inl ⟨u.1, by omega, by omega, by omega, by rw [← show z1 = s0 179 5 by omega, q69]; omega, by rw [← show z1 = s0 179 5 by omega, q70]; exact u.2.2.2.2.1, by rw [← show z1 = s0 179 5 by omega, q71, ← show z6 = kwd (s0 178) (s0 177 1) (s0 177 3) by omega]; exact u.2.2.2.2.2⟩) (fun u => Or.inr ⟨u.1, by omega, by omega⟩)⟩, J_s66, Nc_s66, TK_s66, RK_s66⟩
        · skip
          refine x_A k37_86 (fun _ => rfl) ?_
          refine x_getR k37_87 (f := 3) rfl (q := 179) (n := 6) (kd := 8) ⟨by decide, rfl⟩ (q2 := 191) (by decide) rfl ?_
          refine x_A k37_90 (fun _ => rfl) ?_
          refine x_getI k37_91 (f := 5) rfl (q := 179) (n := 6) (kd := 8) ⟨by decide, rfl⟩ (by decide) rfl ?_
          refine x_rw (q38) ?_
          refine x_aald k37_94 (q := 191) (t := 23) (n := 8) ⟨by decide, rfl⟩ (by decide) (by decide) ⟨by omega, by omega⟩ ?_
          refine x_A k37_95 (fun _ => rfl) ?_
          refine x_iald k37_96 (q := (191 + 1 + z1.toNat)) (n := 8) (xg_192 (by omega) (by omega)) (by decide) (by first | exact x_rbl b_a rfl rfl | exact ⟨by omega, by omega⟩) ?_
          refine x_rw (q44) ?_
          refine x_A k37_97 (fun _ => rfl) ?_
          refine x_getI k37_98 (f := 5) rfl (q := 179) (n := 6) (kd := 8) ⟨by decide, rfl⟩ (by decide) rfl ?_
          refine x_rw (q38) ?_
          refine x_ic_lt k37_101 (t := 111) rfl (by first | exact x_rbe e_z28 g_z28 rfl rfl | exact x_rb g_z28 rfl rfl | exact ⟨by omega, by omega⟩) (by first | exact x_rbe e_z1 g_z1 rfl rfl | exact x_rb g_z1 rfl rfl | exact ⟨by omega, by omega⟩) (fun c75 => ?_) (fun c75 => ?_)
          · skip
            refine x_A k37_111 (fun _ => rfl) ?_
            refine x_getR k37_112 (f := 4) rfl (q := 179) (n := 6) (kd := 8) ⟨by decide, rfl⟩ (q2 := 200) (by decide) rfl ?_
            refine x_A k37_115 (fun _ => rfl) ?_
            refine x_getI k37_116 (f := 5) rfl (q := 179) (n := 6) (kd := 8) ⟨by decide, rfl⟩ (by decide) rfl ?_
            refine x_rw (q38) ?_
            refine x_aald k37_119 (q := 200) (t := 23) (n := 8) ⟨by decide, rfl⟩ (by decide) (by decide) ⟨by omega, by omega⟩ ?_
            refine x_A k37_120 (fun _ => rfl) ?_
            refine x_A k37_121 (fun _ => rfl) ?_
            refine x_A k37_122 (fun _ => rfl) ?_
            have rs : (z6 = 6 → s0 179 5 ≤ z28 → (z33 ≠ 0 ∧ z33 = z33 ∧ z35 = z35) ∨ (z33 = 0 ∧ z33 = 3 ∧ z35 = nx (s0 178) (s0 177 1) (s0 177 3))) ∧ (¬ (z6 = 6 ∧ s0 179 5 ≤ z28) → z33 = z33 ∧ z35 = z35) := ⟨fun e1 e2 => by omega, fun e1 => by omega⟩
            refine x_callS k37_123 (y := 39) (n := 2) (w0 := 2) (w1 := 2) (as := [.ref 177, vi z6]) (rest := [vi a, .ref (200 + 1 + z1.toNat)]) (by decide +kernel) rfl rfl rfl rfl (xe_mono (E_X4_readSecond_177 s36 hG_s36 z6 (by first | exact x_rbe e_z6 g_z6 rfl rfl | exact x_rb g_z6 rfl rfl | exact ⟨by omega, by omega⟩) TK_s36) ?_)
            rintro s77 v ⟨hG_s77, t_s77, z76, rfl, g_z76, xp_z76, TK_s77⟩
            have f_s77 : FL [1219, 1220, 1221, 1222, 1223, 1600, 1728, 1856] s0 s77 := f_s36.tr t_s77 (by decide +kernel)
            have q78 : s77 179 5 = z1 := (t_s77 179 5 (show 1350 ∉ [1219, 1220, 1221, 1222, 1223] from by decide +kernel)).trans q38
            have q79 : s77 177 1 = z2 := (t_s77 177 1 (show 1218 ∉ [1219, 1220, 1221, 1222, 1223] from by decide +kernel)).trans q39
            have q80 : s77 (182 + 1 + z1.toNat) a.toNat = z6 := (t_s77 (182 + 1 + z1.toNat) a.toNat (by rw [(gr_183 a.toNat (show 183 ≤ (182 + 1 + z1.toNat) by omega) (by omega)).2.2]; decide)).trans q43
            have q81 : s77 (191 + 1 + z1.toNat) a.toNat = z28 := (t_s77 (191 + 1 + z1.toNat) a.toNat (by rw [(gr_192 a.toNat (show 192 ≤ (191 + 1 + z1.toNat) by omega) (by omega)).2.2]; decide)).trans q44
            have J_s77 : J s77 := J.fl J_s36 t_s77 (by decide +kernel)
            have Nc_s77 : NRr s77 (s0 179 5) a := NRr.fl Nc_s36 t_s77 (by decide +kernel)
            have RK_s77 : RKp s77 s0 (s0 179 5) a := RKp.fl RK_s36 t_s77 (by decide +kernel)
            obtain ⟨z82, e_z82⟩ : ∃ z, z = s77 177 3 := ⟨_, rfl⟩
            have g_z82 : (0 : Int) ≤ s77 177 3 ∧ s77 177 3 ≤ 160 := hG_s77 177 3
            obtain ⟨z83, e_z83⟩ : ∃ z, z = s77 177 5 := ⟨_, rfl⟩
            have g_z83 : (0 : Int) ≤ s77 177 5 ∧ s77 177 5 ≤ 5 := hG_s77 177 5
            obtain ⟨z84, e_z84⟩ : ∃ z, z = s77 177 6 := ⟨_, rfl⟩
            have g_z84 : (-2147483648) ≤ s77 177 6 ∧ s77 177 6 ≤ 2147483647 := hG_s77 177 6
            show xe none 37 126 [(4, vi z19), (3, vi z6), (0, .ref 179), (1, .ref 177), (2, vi a)] [vi z76, vi a, .ref (200 + 1 + z1.toNat)] s77 0 0 _
            have r2 := xp_z76.1
            unfold SeC at r2
            rw [show s36 178 = s0 178 from funext fun i => f_s36 178 i (show 1280 ∉ [1219, 1220, 1221, 1222, 1223, 1600, 1728, 1856] from by decide +kernel), show s36 177 1 = s0 177 1 from f_s36 177 1 (show 1218 ∉ [1219, 1220, 1221, 1222, 1223, 1600, 1728, 1856] from by decide +kernel), show s36 177 3 = z34 by omega, show s36 177 5 = z33 by omega, show s36 177 6 = z35 by omega, show s77 177 3 = z82 by omega, show s77 177 5 = z83 by omega, show s77 177 6 = z84 by omega] at r2
            refine x_iast k37_126 (q := (200 + 1 + z1.toNat)) (n := 8) (xg_201 (by omega) (by omega)) (by decide) (by first | exact x_rbl b_a rfl rfl | exact ⟨by omega, by omega⟩) ?_
            refine x_nh (fun s85 e_s85 => ?_)
            have w86 := gr_201 a.toNat (show 201 ≤ (200 + 1 + z1.toNat) by omega) (by omega)
            have hG_s85 : GI s85 := by rw [e_s85]; exact hG_s77.up (by rw [w86.1, w86.2.1]; exact (show (-1) ≤ z76 ∧ z76 ≤ 99 from (by first | exact x_rbe e_z76 g_z76 rfl rfl | exact x_rb g_z76 rfl rfl | exact ⟨by omega, by omega⟩)))
            have f_s85 : FL [1219, 1220, 1221, 1222, 1223, 1600, 1728, 1856] s0 s85 := by rw [e_s85]; exact f_s77.up (by rw [w86.2.2]; decide)
            have q87 : s85 179 5 = z1 := by rw [e_s85, x_up_q (by omega)]; exact q78
            have q88 : s85 177 1 = z2 := by rw [e_s85, x_up_q (by omega)]; exact q79
            have q89 : s85 177 3 = z82 := by rw [e_s85, x_up_q (by omega)]; exact e_z82.symm
            have q90 : s85 177 5 = z83 := by rw [e_s85, x_up_q (by omega)]; exact e_z83.symm
            have q91 : s85 177 6 = z84 := by rw [e_s85, x_up_q (by omega)]; exact e_z84.symm
            have q92 : s85 (182 + 1 + z1.toNat) a.toNat = z6 := by rw [e_s85, x_up_q (by omega)]; exact q80
            have q93 : s85 (191 + 1 + z1.toNat) a.toNat = z28 := by rw [e_s85, x_up_q (by omega)]; exact q81
            have q94 : s85 (200 + 1 + z1.toNat) a.toNat = z76 := by rw [e_s85]; exact x_up_same
            have J_s85 : J s85 := by rw [e_s85]; exact J.st J_s77 (q78).symm ⟨by omega, by omega⟩ (Or.inr (Or.inr rfl))
            have Nc_s85 : NRr s85 (s0 179 5) a := by rw [e_s85]; exact NRr.st Nc_s77 (by omega)
            have TK_s85 : TKs s85 := by rw [e_s85]; exact TKs.up TK_s77 (by rw [w86.2.2]; decide)
            have RK_s85 : RKp s85 s0 (s0 179 5) a := by rw [e_s85]; exact RKp.st RK_s77 (by omega)
            refine x_A k37_127 (fun _ => rfl) ?_
            refine x_bipush k37_128 (by decide +kernel) ?_
            refine x_callV k37_130 (y := 56) (n := 1) (w0 := 0) (w1 := 1) (as := [vi 59]) (rest := []) (by decide +kernel) (q := 177) (nq := 7) (kq := 7) ⟨by decide, rfl⟩ rfl rfl rfl rfl (xe_mono (E_X6_takeSign_177 s85 hG_s85 59 ⟨by decide, by decide⟩ (by omega) TK_s85) ?_)
            rintro s96 v ⟨hG_s96, t_s96, rfl, xp_z95, TK_s96⟩
            have f_s96 : FL [1219, 1220, 1221, 1222, 1223, 1600, 1728, 1856] s0 s96 := f_s85.tr t_s96 (by decide +kernel)
            have q97 : s96 179 5 = z1 := (t_s96 179 5 (show 1350 ∉ [1219, 1220, 1221, 1222, 1223] from by decide +kernel)).trans q87
            have q98 : s96 177 1 = z2 := (t_s96 177 1 (show 1218 ∉ [1219, 1220, 1221, 1222, 1223] from by decide +kernel)).trans q88
            have q99 : s96 (182 + 1 + z1.toNat) a.toNat = z6 := (t_s96 (182 + 1 + z1.toNat) a.toNat (by rw [(gr_183 a.toNat (show 183 ≤ (182 + 1 + z1.toNat) by omega) (by omega)).2.2]; decide)).trans q92
            have q100 : s96 (191 + 1 + z1.toNat) a.toNat = z28 := (t_s96 (191 + 1 + z1.toNat) a.toNat (by rw [(gr_192 a.toNat (show 192 ≤ (191 + 1 + z1.toNat) by omega) (by omega)).2.2]; decide)).trans q93
            have q101 : s96 (200 + 1 + z1.toNat) a.toNat = z76 := (t_s96 (200 + 1 + z1.toNat) a.toNat (by rw [(gr_201 a.toNat (show 201 ≤ (200 + 1 + z1.toNat) by omega) (by omega)).2.2]; decide)).trans q94
            have J_s96 : J s96 := J.fl J_s85 t_s96 (by decide +kernel)
            have Nc_s96 : NRr s96 (s0 179 5) a := NRr.fl Nc_s85 t_s96 (by decide +kernel)
            have RK_s96 : RKp s96 s0 (s0 179 5) a := RKp.fl RK_s85 t_s96 (by decide +kernel)
            obtain ⟨z102, e_z102⟩ : ∃ z, z = s96 177 3 := ⟨_, rfl⟩
            have g_z102 : (0 : Int) ≤ s96 177 3 ∧ s96 177 3 ≤ 160 := hG_s96 177 3
            obtain ⟨z103, e_z103⟩ : ∃ z, z = s96 177 5 := ⟨_, rfl⟩
            have g_z103 : (0 : Int) ≤ s96 177 5 ∧ s96 177 5 ≤ 5 := hG_s96 177 5
            obtain ⟨z104, e_z104⟩ : ∃ z, z = s96 177 6 := ⟨_, rfl⟩
            have g_z104 : (-2147483648) ≤ s96 177 6 ∧ s96 177 6 ≤ 2147483647 := hG_s96 177 6
            show xe none 37 133 [(4, vi z19), (3, vi z6), (0, .ref 179), (1, .ref 177), (2, vi a)] [] s96 0 0 _
            have r3 := xp_z95.1
            unfold TwC at r3
            rw [show s85 178 = s0 178 from funext fun i => f_s85 178 i (show 1280 ∉ [1219, 1220, 1221, 1222, 1223, 1600, 1728, 1856] from by decide +kernel), show s85 177 1 = s0 177 1 from f_s85 177 1 (show 1218 ∉ [1219, 1220, 1221, 1222, 1223, 1600, 1728, 1856] from by decide +kernel), show s85 177 3 = z82 by omega, show s85 177 5 = z83 by omega, show s85 177 6 = z84 by omega, show s96 177 3 = z102 by omega, show s96 177 5 = z103 by omega, show s96 177 6 = z104 by omega] at r3
            exact x_vret k37_133 rfl ⟨hG_s96, f_s96, rfl, ⟨(fun hz => ⟨by omega, by omega, NRr.add Nc_s96 (k := z6) (a := z28) (b := z76) (by omega) (by rw [← e_z1]; exact q99) (by rw [← e_z1]; exact q100) (by rw [← e_z1]; exact q101) (by omega)⟩), fun h0 => (cl_fin (T := s0 178) (n := s0 177 1) (p := s0 177 3) (i := a) (R := s0 179 5) (k := z6) (g0 := s0 177 6) (z1 := z28) (z2 := z76) (by omega) (by omega) (by omega) r1 rs (by omega) r2 r3).elim (fun u => Or.inl ⟨u.1, by omega, by omega, by omega, by rw [← show z1 = s0 179 5 by omega, q99]; omega, by rw [← show z1 = s0 179 5 by omega, q100]; exact u.2.2.2.2.1, by rw [← show z1 = s0 179 5 by omega, q101, ← show z6 = kwd (s0 178) (s0 177 1) (s0 177 3) by omega]; exact u.2.2.2.2.2⟩) (fun u => Or.inr ⟨u.1, by omega, by omega⟩)⟩, J_s96, Nc_s96, TK_s96, RK_s96⟩
          · skip
            refine x_A k37_104 (fun _ => rfl) ?_
            refine x_A k37_105 (fun _ => rfl) ?_
            refine x_A k37_106 (fun _ => rfl) ?_
            refine x_callV k37_108 (y := 52) (n := 2) (w0 := 0) (w1 := 2) (as := [vi 3, vi z19]) (rest := []) (by decide +kernel) (q := 177) (nq := 7) (kq := 7) ⟨by decide, rfl⟩ rfl rfl rfl rfl (xe_mono (E_X6_fail_177 s36 hG_s36 3 ⟨by decide, by decide⟩ z19 (by first | exact x_rbe e_z19 g_z19 rfl rfl | exact x_rb g_z19 rfl rfl | exact ⟨by omega, by omega⟩)) ?_)
            rintro s106 v ⟨hG_s106, t_s106, rfl, xp_z105⟩
            have f_s106 : FL [1219, 1220, 1221, 1222, 1223, 1600, 1728, 1856] s0 s106 := f_s36.tr t_s106 (by decide +kernel)
            have q107 : s106 179 5 = z1 := (t_s106 179 5 (show 1350 ∉ [1222, 1223] from by decide +kernel)).trans q38
            have q108 : s106 177 1 = z2 := (t_s106 177 1 (show 1218 ∉ [1222, 1223] from by decide +kernel)).trans q39
            have q109 : s106 177 3 = z34 := (t_s106 177 3 (show 1220 ∉ [1222, 1223] from by decide +kernel)).trans q41
            have q110 : s106 (182 + 1 + z1.toNat) a.toNat = z6 := (t_s106 (182 + 1 + z1.toNat) a.toNat (by rw [(gr_183 a.toNat (show 183 ≤ (182 + 1 + z1.toNat) by omega) (by omega)).2.2]; decide)).trans q43
            have q111 : s106 (191 + 1 + z1.toNat) a.toNat = z28 := (t_s106 (191 + 1 + z1.toNat) a.toNat (by rw [(gr_192 a.toNat (show 192 ≤ (191 + 1 + z1.toNat) by omega) (by omega)).2.2]; decide)).trans q44
            have J_s106 : J s106 := J.fl J_s36 t_s106 (by decide +kernel)
            have Nc_s106 : NRr s106 (s0 179 5) a := NRr.fl Nc_s36 t_s106 (by decide +kernel)
            have TK_s106 : TKs s106 := TKs.fl TK_s36 t_s106 (by decide +kernel)
            have RK_s106 : RKp s106 s0 (s0 179 5) a := RKp.fl RK_s36 t_s106 (by decide +kernel)
            obtain ⟨z112, e_z112⟩ : ∃ z, z = s106 177 5 := ⟨_, rfl⟩
            have g_z112 : (0 : Int) ≤ s106 177 5 ∧ s106 177 5 ≤ 5 := hG_s106 177 5
            obtain ⟨z113, e_z113⟩ : ∃ z, z = s106 177 6 := ⟨_, rfl⟩
            have g_z113 : (-2147483648) ≤ s106 177 6 ∧ s106 177 6 ≤ 2147483647 := hG_s106 177 6
            show xe none 37 111 [(4, vi z19), (3, vi z6), (0, .ref 179), (1, .ref 177), (2, vi a)] [] s106 0 0 _
            refine x_A k37_111 (fun _ => rfl) ?_
            refine x_getR k37_112 (f := 4) rfl (q := 179) (n := 6) (kd := 8) ⟨by decide, rfl⟩ (q2 := 200) (by decide) rfl ?_
            refine x_A k37_115 (fun _ => rfl) ?_
            refine x_getI k37_116 (f := 5) rfl (q := 179) (n := 6) (kd := 8) ⟨by decide, rfl⟩ (by decide) rfl ?_
            refine x_rw (q107) ?_
            refine x_aald k37_119 (q := 200) (t := 23) (n := 8) ⟨by decide, rfl⟩ (by decide) (by decide) ⟨by omega, by omega⟩ ?_
            refine x_A k37_120 (fun _ => rfl) ?_
            refine x_A k37_121 (fun _ => rfl) ?_
            refine x_A k37_122 (fun _ => rfl) ?_
            have rs : (z6 = 6 → s0 179 5 ≤ z28 → (z33 ≠ 0 ∧ z112 = z33 ∧ z113 = z35) ∨ (z33 = 0 ∧ z112 = 3 ∧ z113 = nx (s0 178) (s0 177 1) (s0 177 3))) ∧ (¬ (z6 = 6 ∧ s0 179 5 ≤ z28) → z112 = z33 ∧ z113 = z35) := ⟨fun e1 e2 => by omega, fun e1 => by omega⟩
            refine x_callS k37_123 (y := 39) (n := 2) (w0 := 2) (w1 := 2) (as := [.ref 177, vi z6]) (rest := [vi a, .ref (200 + 1 + z1.toNat)]) (by decide +kernel) rfl rfl rfl rfl (xe_mono (E_X4_readSecond_177 s106 hG_s106 z6 (by first | exact x_rbe e_z6 g_z6 rfl rfl | exact x_rb g_z6 rfl rfl | exact ⟨by omega, by omega⟩) TK_s106) ?_)
            rintro s115 v ⟨hG_s115, t_s115, z114, rfl, g_z114, xp_z114, TK_s115⟩
            have f_s115 : FL [1219, 1220, 1221, 1222, 1223, 1600, 1728, 1856] s0 s115 := f_s106.tr t_s115 (by decide +kernel)
            have q116 : s115 179 5 = z1 := (t_s115 179 5 (show 1350 ∉ [1219, 1220, 1221, 1222, 1223] from by decide +kernel)).trans q107
            have q117 : s115 177 1 = z2 := (t_s115 177 1 (show 1218 ∉ [1219, 1220, 1221, 1222, 1223] from by decide +kernel)).trans q108
            have q118 : s115 (182 + 1 + z1.toNat) a.toNat = z6 := (t_s115 (182 + 1 + z1.toNat) a.toNat (by rw [(gr_183 a.toNat (show 183 ≤ (182 + 1 + z1.toNat) by omega) (by omega)).2.2]; decide)).trans q110
            have q119 : s115 (191 + 1 + z1.toNat) a.toNat = z28 := (t_s115 (191 + 1 + z1.toNat) a.toNat (by rw [(gr_192 a.toNat (show 192 ≤ (191 + 1 + z1.toNat) by omega) (by omega)).2.2]; decide)).trans q111
            have J_s115 : J s115 := J.fl J_s106 t_s115 (by decide +kernel)
            have Nc_s115 : NRr s115 (s0 179 5) a := NRr.fl Nc_s106 t_s115 (by decide +kernel)
            have RK_s115 : RKp s115 s0 (s0 179 5) a := RKp.fl RK_s106 t_s115 (by decide +kernel)
            obtain ⟨z120, e_z120⟩ : ∃ z, z = s115 177 3 := ⟨_, rfl⟩
            have g_z120 : (0 : Int) ≤ s115 177 3 ∧ s115 177 3 ≤ 160 := hG_s115 177 3
            obtain ⟨z121, e_z121⟩ : ∃ z, z = s115 177 5 := ⟨_, rfl⟩
            have g_z121 : (0 : Int) ≤ s115 177 5 ∧ s115 177 5 ≤ 5 := hG_s115 177 5
            obtain ⟨z122, e_z122⟩ : ∃ z, z = s115 177 6 := ⟨_, rfl⟩
            have g_z122 : (-2147483648) ≤ s115 177 6 ∧ s115 177 6 ≤ 2147483647 := hG_s115 177 6
            show xe none 37 126 [(4, vi z19), (3, vi z6), (0, .ref 179), (1, .ref 177), (2, vi a)] [vi z114, vi a, .ref (200 + 1 + z1.toNat)] s115 0 0 _
            have r2 := xp_z114.1
            unfold SeC at r2
            rw [show s106 178 = s0 178 from funext fun i => f_s106 178 i (show 1280 ∉ [1219, 1220, 1221, 1222, 1223, 1600, 1728, 1856] from by decide +kernel), show s106 177 1 = s0 177 1 from f_s106 177 1 (show 1218 ∉ [1219, 1220, 1221, 1222, 1223, 1600, 1728, 1856] from by decide +kernel), show s106 177 3 = z34 by omega, show s106 177 5 = z112 by omega, show s106 177 6 = z113 by omega, show s115 177 3 = z120 by omega, show s115 177 5 = z121 by omega, show s115 177 6 = z122 by omega] at r2
            refine x_iast k37_126 (q := (200 + 1 + z1.toNat)) (n := 8) (xg_201 (by omega) (by omega)) (by decide) (by first | exact x_rbl b_a rfl rfl | exact ⟨by omega, by omega⟩) ?_
            refine x_nh (fun s123 e_s123 => ?_)
            have w124 := gr_201 a.toNat (show 201 ≤ (200 + 1 + z1.toNat) by omega) (by omega)
            have hG_s123 : GI s123 := by rw [e_s123]; exact hG_s115.up (by rw [w124.1, w124.2.1]; exact (show (-1) ≤ z114 ∧ z114 ≤ 99 from (by first | exact x_rbe e_z114 g_z114 rfl rfl | exact x_rb g_z114 rfl rfl | exact ⟨by omega, by omega⟩)))
            have f_s123 : FL [1219, 1220, 1221, 1222, 1223, 1600, 1728, 1856] s0 s123 := by rw [e_s123]; exact f_s115.up (by rw [w124.2.2]; decide)
            have q125 : s123 179 5 = z1 := by rw [e_s123, x_up_q (by omega)]; exact q116
            have q126 : s123 177 1 = z2 := by rw [e_s123, x_up_q (by omega)]; exact q117
            have q127 : s123 177 3 = z120 := by rw [e_s123, x_up_q (by omega)]; exact e_z120.symm
            have q128 : s123 177 5 = z121 := by rw [e_s123, x_up_q (by omega)]; exact e_z121.symm
            have q129 : s123 177 6 = z122 := by rw [e_s123, x_up_q (by omega)]; exact e_z122.symm
            have q130 : s123 (182 + 1 + z1.toNat) a.toNat = z6 := by rw [e_s123, x_up_q (by omega)]; exact q118
            have q131 : s123 (191 + 1 + z1.toNat) a.toNat = z28 := by rw [e_s123, x_up_q (by omega)]; exact q119
            have q132 : s123 (200 + 1 + z1.toNat) a.toNat = z114 := by rw [e_s123]; exact x_up_same
            have J_s123 : J s123 := by rw [e_s123]; exact J.st J_s115 (q116).symm ⟨by omega, by omega⟩ (Or.inr (Or.inr rfl))
            have Nc_s123 : NRr s123 (s0 179 5) a := by rw [e_s123]; exact NRr.st Nc_s115 (by omega)
            have TK_s123 : TKs s123 := by rw [e_s123]; exact TKs.up TK_s115 (by rw [w124.2.2]; decide)
            have RK_s123 : RKp s123 s0 (s0 179 5) a := by rw [e_s123]; exact RKp.st RK_s115 (by omega)
            refine x_A k37_127 (fun _ => rfl) ?_
            refine x_bipush k37_128 (by decide +kernel) ?_
            refine x_callV k37_130 (y := 56) (n := 1) (w0 := 0) (w1 := 1) (as := [vi 59]) (rest := []) (by decide +kernel) (q := 177) (nq := 7) (kq := 7) ⟨by decide, rfl⟩ rfl rfl rfl rfl (xe_mono (E_X6_takeSign_177 s123 hG_s123 59 ⟨by decide, by decide⟩ (by omega) TK_s123) ?_)
            rintro s134 v ⟨hG_s134, t_s134, rfl, xp_z133, TK_s134⟩
            have f_s134 : FL [1219, 1220, 1221, 1222, 1223, 1600, 1728, 1856] s0 s134 := f_s123.tr t_s134 (by decide +kernel)
            have q135 : s134 179 5 = z1 := (t_s134 179 5 (show 1350 ∉ [1219, 1220, 1221, 1222, 1223] from by decide +kernel)).trans q125
            have q136 : s134 177 1 = z2 := (t_s134 177 1 (show 1218 ∉ [1219, 1220, 1221, 1222, 1223] from by decide +kernel)).trans q126
            have q137 : s134 (182 + 1 + z1.toNat) a.toNat = z6 := (t_s134 (182 + 1 + z1.toNat) a.toNat (by rw [(gr_183 a.toNat (show 183 ≤ (182 + 1 + z1.toNat) by omega) (by omega)).2.2]; decide)).trans q130
            have q138 : s134 (191 + 1 + z1.toNat) a.toNat = z28 := (t_s134 (191 + 1 + z1.toNat) a.toNat (by rw [(gr_192 a.toNat (show 192 ≤ (191 + 1 + z1.toNat) by omega) (by omega)).2.2]; decide)).trans q131
            have q139 : s134 (200 + 1 + z1.toNat) a.toNat = z114 := (t_s134 (200 + 1 + z1.toNat) a.toNat (by rw [(gr_201 a.toNat (show 201 ≤ (200 + 1 + z1.toNat) by omega) (by omega)).2.2]; decide)).trans q132
            have J_s134 : J s134 := J.fl J_s123 t_s134 (by decide +kernel)
            have Nc_s134 : NRr s134 (s0 179 5) a := NRr.fl Nc_s123 t_s134 (by decide +kernel)
            have RK_s134 : RKp s134 s0 (s0 179 5) a := RKp.fl RK_s123 t_s134 (by decide +kernel)
            obtain ⟨z140, e_z140⟩ : ∃ z, z = s134 177 3 := ⟨_, rfl⟩
            have g_z140 : (0 : Int) ≤ s134 177 3 ∧ s134 177 3 ≤ 160 := hG_s134 177 3
            obtain ⟨z141, e_z141⟩ : ∃ z, z = s134 177 5 := ⟨_, rfl⟩
            have g_z141 : (0 : Int) ≤ s134 177 5 ∧ s134 177 5 ≤ 5 := hG_s134 177 5
            obtain ⟨z142, e_z142⟩ : ∃ z, z = s134 177 6 := ⟨_, rfl⟩
            have g_z142 : (-2147483648) ≤ s134 177 6 ∧ s134 177 6 ≤ 2147483647 := hG_s134 177 6
            show xe none 37 133 [(4, vi z19), (3, vi z6), (0, .ref 179), (1, .ref 177), (2, vi a)] [] s134 0 0 _
            have r3 := xp_z133.1
            unfold TwC at r3
            rw [show s123 178 = s0 178 from funext fun i => f_s123 178 i (show 1280 ∉ [1219, 1220, 1221, 1222, 1223, 1600, 1728, 1856] from by decide +kernel), show s123 177 1 = s0 177 1 from f_s123 177 1 (show 1218 ∉ [1219, 1220, 1221, 1222, 1223, 1600, 1728, 1856] from by decide +kernel), show s123 177 3 = z120 by omega, show s123 177 5 = z121 by omega, show s123 177 6 = z122 by omega, show s134 177 3 = z140 by omega, show s134 177 5 = z141 by omega, show s134 177 6 = z142 by omega] at r3
            exact x_vret k37_133 rfl ⟨hG_s134, f_s134, rfl, ⟨(fun hz => ⟨by omega, by omega, NRr.add Nc_s134 (k := z6) (a := z28) (b := z114) (by omega) (by rw [← e_z1]; exact q137) (by rw [← e_z1]; exact q138) (by rw [← e_z1]; exact q139) (by omega)⟩), fun h0 => (cl_fin (T := s0 178) (n := s0 177 1) (p := s0 177 3) (i := a) (R := s0 179 5) (k := z6) (g0 := s0 177 6) (z1 := z28) (z2 := z114) (by omega) (by omega) (by omega) r1 rs (by omega) r2 r3).elim (fun u => Or.inl ⟨u.1, by omega, by omega, by omega, by rw [← show z1 = s0 179 5 by omega, q137]; omega, by rw [← show z1 = s0 179 5 by omega, q138]; exact u.2.2.2.2.1, by rw [← show z1 = s0 179 5 by omega, q139, ← show z6 = kwd (s0 178) (s0 177 1) (s0 177 3) by omega]; exact u.2.2.2.2.2⟩) (fun u => Or.inr ⟨u.1, by omega, by omega⟩)⟩, J_s134, Nc_s134, TK_s134, RK_s134⟩
      · skip
        exact x_vret k37_41 rfl ⟨hG0, f0, rfl, ⟨(fun hz => by exfalso; omega), fun h0 => Or.inr (by have kc := kwd_cs (s0 178) (s0 177 1) (s0 177 3); by_cases ek : kwd (s0 178) (s0 177 1) (s0 177 3) = -1 <;> first | (have c1 := cl_k (T := s0 178) (n := s0 177 1) (i := a) (R := s0 179 5) ek; omega) | (have c1 := cl_8 (T := s0 178) (n := s0 177 1) (R := s0 179 5) ek (show 8 ≤ a by omega); omega))⟩, i0_J, i0_Nc, i0_TK, i0_RK⟩
    · skip
      refine x_A k37_25 (fun _ => rfl) ?_
      refine x_A k37_26 (fun _ => rfl) ?_
      refine x_A k37_27 (fun _ => rfl) ?_
      refine x_getI k37_28 (f := 3) rfl (q := 177) (n := 7) (kd := 7) ⟨by decide, rfl⟩ (by decide) rfl ?_
      refine x_rw (e_z3.symm) ?_
      refine x_callV k37_31 (y := 52) (n := 2) (w0 := 0) (w1 := 2) (as := [vi 4, vi z3]) (rest := []) (by decide +kernel) (q := 177) (nq := 7) (kq := 7) ⟨by decide, rfl⟩ rfl rfl rfl rfl (xe_mono (E_X6_fail_177 s0 hG0 4 ⟨by decide, by decide⟩ z3 (by first | exact x_rbe e_z3 g_z3 rfl rfl | exact x_rb g_z3 rfl rfl | exact ⟨by omega, by omega⟩)) ?_)
      rintro s144 v ⟨hG_s144, t_s144, rfl, xp_z143⟩
      have f_s144 : FL [1219, 1220, 1221, 1222, 1223, 1600, 1728, 1856] s0 s144 := f0.tr t_s144 (by decide +kernel)
      have q145 : s144 179 5 = z1 := (t_s144 179 5 (show 1350 ∉ [1222, 1223] from by decide +kernel)).trans e_z1.symm
      have q146 : s144 177 1 = z2 := (t_s144 177 1 (show 1218 ∉ [1222, 1223] from by decide +kernel)).trans e_z2.symm
      have q147 : s144 177 3 = z3 := (t_s144 177 3 (show 1220 ∉ [1222, 1223] from by decide +kernel)).trans e_z3.symm
      have J_s144 : J s144 := J.fl i0_J t_s144 (by decide +kernel)
      have Nc_s144 : NRr s144 (s0 179 5) a := NRr.fl i0_Nc t_s144 (by decide +kernel)
      have TK_s144 : TKs s144 := TKs.fl i0_TK t_s144 (by decide +kernel)
      have RK_s144 : RKp s144 s0 (s0 179 5) a := RKp.fl i0_RK t_s144 (by decide +kernel)
      obtain ⟨z148, e_z148⟩ : ∃ z, z = s144 177 5 := ⟨_, rfl⟩
      have g_z148 : (0 : Int) ≤ s144 177 5 ∧ s144 177 5 ≤ 5 := hG_s144 177 5
      obtain ⟨z149, e_z149⟩ : ∃ z, z = s144 177 6 := ⟨_, rfl⟩
      have g_z149 : (-2147483648) ≤ s144 177 6 ∧ s144 177 6 ≤ 2147483647 := hG_s144 177 6
      show xe none 37 34 [(3, vi z6), (0, .ref 179), (1, .ref 177), (2, vi a)] [] s144 0 0 _
      refine x_A k37_34 (fun _ => rfl) ?_
      refine x_getI k37_35 (f := 5) rfl (q := 177) (n := 7) (kd := 7) ⟨by decide, rfl⟩ (by decide) rfl ?_
      refine x_rw (e_z148.symm) ?_
      refine x_if_eq k37_38 (t := 42) rfl (by first | exact x_rbe e_z148 g_z148 rfl rfl | exact x_rb g_z148 rfl rfl | exact ⟨by omega, by omega⟩) (fun c150 => by exfalso; omega) (fun c150 => ?_)
      exact x_vret k37_41 rfl ⟨hG_s144, f_s144, rfl, ⟨(fun hz => by exfalso; omega), fun h0 => Or.inr (by have kc := kwd_cs (s0 178) (s0 177 1) (s0 177 3); by_cases ek : kwd (s0 178) (s0 177 1) (s0 177 3) = -1 <;> first | (have c1 := cl_k (T := s0 178) (n := s0 177 1) (i := a) (R := s0 179 5) ek; omega) | (have c1 := cl_8 (T := s0 178) (n := s0 177 1) (R := s0 179 5) ek (show 8 ≤ a by omega); omega))⟩, J_s144, Nc_s144, TK_s144, RK_s144⟩
  · skip
    refine x_A k37_10 (fun _ => rfl) ?_
    refine x_A k37_11 (fun _ => rfl) ?_
    refine x_A k37_12 (fun _ => rfl) ?_
    refine x_getI k37_13 (f := 3) rfl (q := 177) (n := 7) (kd := 7) ⟨by decide, rfl⟩ (by decide) rfl ?_
    refine x_rw (e_z3.symm) ?_
    refine x_callV k37_16 (y := 52) (n := 2) (w0 := 0) (w1 := 2) (as := [vi 1, vi z3]) (rest := []) (by decide +kernel) (q := 177) (nq := 7) (kq := 7) ⟨by decide, rfl⟩ rfl rfl rfl rfl (xe_mono (E_X6_fail_177 s0 hG0 1 ⟨by decide, by decide⟩ z3 (by first | exact x_rbe e_z3 g_z3 rfl rfl | exact x_rb g_z3 rfl rfl | exact ⟨by omega, by omega⟩)) ?_)
    rintro s152 v ⟨hG_s152, t_s152, rfl, xp_z151⟩
    have f_s152 : FL [1219, 1220, 1221, 1222, 1223, 1600, 1728, 1856] s0 s152 := f0.tr t_s152 (by decide +kernel)
    have q153 : s152 179 5 = z1 := (t_s152 179 5 (show 1350 ∉ [1222, 1223] from by decide +kernel)).trans e_z1.symm
    have q154 : s152 177 1 = z2 := (t_s152 177 1 (show 1218 ∉ [1222, 1223] from by decide +kernel)).trans e_z2.symm
    have q155 : s152 177 3 = z3 := (t_s152 177 3 (show 1220 ∉ [1222, 1223] from by decide +kernel)).trans e_z3.symm
    have J_s152 : J s152 := J.fl i0_J t_s152 (by decide +kernel)
    have Nc_s152 : NRr s152 (s0 179 5) a := NRr.fl i0_Nc t_s152 (by decide +kernel)
    have TK_s152 : TKs s152 := TKs.fl i0_TK t_s152 (by decide +kernel)
    have RK_s152 : RKp s152 s0 (s0 179 5) a := RKp.fl i0_RK t_s152 (by decide +kernel)
    obtain ⟨z156, e_z156⟩ : ∃ z, z = s152 177 5 := ⟨_, rfl⟩
    have g_z156 : (0 : Int) ≤ s152 177 5 ∧ s152 177 5 ≤ 5 := hG_s152 177 5
    obtain ⟨z157, e_z157⟩ : ∃ z, z = s152 177 6 := ⟨_, rfl⟩
    have g_z157 : (-2147483648) ≤ s152 177 6 ∧ s152 177 6 ≤ 2147483647 := hG_s152 177 6
    show xe none 37 19 [(3, vi z6), (0, .ref 179), (1, .ref 177), (2, vi a)] [] s152 0 0 _
    refine x_A k37_19 (fun _ => rfl) ?_
    refine x_bipush k37_20 (by decide +kernel) ?_
    refine x_ic_lt k37_22 (t := 34) rfl (by first | exact x_rb b_a rfl rfl | exact ⟨by omega, by omega⟩) ⟨by decide, by decide⟩ (fun c158 => ?_) (fun c158 => ?_)
    · skip
      refine x_A k37_34 (fun _ => rfl) ?_
      refine x_getI k37_35 (f := 5) rfl (q := 177) (n := 7) (kd := 7) ⟨by decide, rfl⟩ (by decide) rfl ?_
      refine x_rw (e_z156.symm) ?_
      refine x_if_eq k37_38 (t := 42) rfl (by first | exact x_rbe e_z156 g_z156 rfl rfl | exact x_rb g_z156 rfl rfl | exact ⟨by omega, by omega⟩) (fun c159 => by exfalso; omega) (fun c159 => ?_)
      exact x_vret k37_41 rfl ⟨hG_s152, f_s152, rfl, ⟨(fun hz => by exfalso; omega), fun h0 => Or.inr (by have kc := kwd_cs (s0 178) (s0 177 1) (s0 177 3); by_cases ek : kwd (s0 178) (s0 177 1) (s0 177 3) = -1 <;> first | (have c1 := cl_k (T := s0 178) (n := s0 177 1) (i := a) (R := s0 179 5) ek; omega) | (have c1 := cl_8 (T := s0 178) (n := s0 177 1) (R := s0 179 5) ek (show 8 ≤ a by omega); omega))⟩, J_s152, Nc_s152, TK_s152, RK_s152⟩
    · skip
      refine x_A k37_25 (fun _ => rfl) ?_
      refine x_A k37_26 (fun _ => rfl) ?_
      refine x_A k37_27 (fun _ => rfl) ?_
      refine x_getI k37_28 (f := 3) rfl (q := 177) (n := 7) (kd := 7) ⟨by decide, rfl⟩ (by decide) rfl ?_
      refine x_rw (q155) ?_
      refine x_callV k37_31 (y := 52) (n := 2) (w0 := 0) (w1 := 2) (as := [vi 4, vi z3]) (rest := []) (by decide +kernel) (q := 177) (nq := 7) (kq := 7) ⟨by decide, rfl⟩ rfl rfl rfl rfl (xe_mono (E_X6_fail_177 s152 hG_s152 4 ⟨by decide, by decide⟩ z3 (by first | exact x_rbe e_z3 g_z3 rfl rfl | exact x_rb g_z3 rfl rfl | exact ⟨by omega, by omega⟩)) ?_)
      rintro s161 v ⟨hG_s161, t_s161, rfl, xp_z160⟩
      have f_s161 : FL [1219, 1220, 1221, 1222, 1223, 1600, 1728, 1856] s0 s161 := f_s152.tr t_s161 (by decide +kernel)
      have q162 : s161 179 5 = z1 := (t_s161 179 5 (show 1350 ∉ [1222, 1223] from by decide +kernel)).trans q153
      have q163 : s161 177 1 = z2 := (t_s161 177 1 (show 1218 ∉ [1222, 1223] from by decide +kernel)).trans q154
      have q164 : s161 177 3 = z3 := (t_s161 177 3 (show 1220 ∉ [1222, 1223] from by decide +kernel)).trans q155
      have J_s161 : J s161 := J.fl J_s152 t_s161 (by decide +kernel)
      have Nc_s161 : NRr s161 (s0 179 5) a := NRr.fl Nc_s152 t_s161 (by decide +kernel)
      have TK_s161 : TKs s161 := TKs.fl TK_s152 t_s161 (by decide +kernel)
      have RK_s161 : RKp s161 s0 (s0 179 5) a := RKp.fl RK_s152 t_s161 (by decide +kernel)
      obtain ⟨z165, e_z165⟩ : ∃ z, z = s161 177 5 := ⟨_, rfl⟩
      have g_z165 : (0 : Int) ≤ s161 177 5 ∧ s161 177 5 ≤ 5 := hG_s161 177 5
      obtain ⟨z166, e_z166⟩ : ∃ z, z = s161 177 6 := ⟨_, rfl⟩
      have g_z166 : (-2147483648) ≤ s161 177 6 ∧ s161 177 6 ≤ 2147483647 := hG_s161 177 6
      show xe none 37 34 [(3, vi z6), (0, .ref 179), (1, .ref 177), (2, vi a)] [] s161 0 0 _
      refine x_A k37_34 (fun _ => rfl) ?_
      refine x_getI k37_35 (f := 5) rfl (q := 177) (n := 7) (kd := 7) ⟨by decide, rfl⟩ (by decide) rfl ?_
      refine x_rw (e_z165.symm) ?_
      refine x_if_eq k37_38 (t := 42) rfl (by first | exact x_rbe e_z165 g_z165 rfl rfl | exact x_rb g_z165 rfl rfl | exact ⟨by omega, by omega⟩) (fun c167 => by exfalso; omega) (fun c167 => ?_)
      exact x_vret k37_41 rfl ⟨hG_s161, f_s161, rfl, ⟨(fun hz => by exfalso; omega), fun h0 => Or.inr (by have kc := kwd_cs (s0 178) (s0 177 1) (s0 177 3); by_cases ek : kwd (s0 178) (s0 177 1) (s0 177 3) = -1 <;> first | (have c1 := cl_k (T := s0 178) (n := s0 177 1) (i := a) (R := s0 179 5) ek; omega) | (have c1 := cl_8 (T := s0 178) (n := s0 177 1) (R := s0 179 5) ek (show 8 ≤ a by omega); omega))⟩, J_s161, Nc_s161, TK_s161, RK_s161⟩
