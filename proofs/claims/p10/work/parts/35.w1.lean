theorem C_X4_readClause_179_177 (s0 : xS) (hG0 : GI s0) (a : Int) (b_a : 0 ≤ a ∧ a ≤ 8) (p_179_5 : 0 ≤ s0 179 5 ∧ s0 179 5 ≤ 7) (i0_J : J s0) (i0_Nc : NRr s0 (s0 179 5) a) : xe none 37 0 (lv_args 0 [.ref 179, .ref 177, vi a]) [] s0 0 0 (fun s' v => GI s' ∧ FL [1219, 1220, 1221, 1222, 1223, 1600, 1728, 1856] s0 s' ∧ v = none ∧ (s' 177 5 = 0 → s0 177 5 = 0 ∧ a < 8 ∧ NRr s' (s0 179 5) (a + 1)) ∧ J s' ∧ NRr s' (s0 179 5) a) := by
  have f0 : FL [1219, 1220, 1221, 1222, 1223, 1600, 1728, 1856] s0 s0 := FL.rf
  show xe none 37 0 [(0, .ref 179), (1, .ref 177), (2, vi a)] [] s0 0 0 _
  obtain ⟨z1, e_z1⟩ : ∃ z, z = s0 179 5 := ⟨_, rfl⟩
  have g_z1 : (0 : Int) ≤ s0 179 5 ∧ s0 179 5 ≤ 8 := hG0 179 5
  refine x_A k37_0 (fun _ => rfl) ?_
  refine x_callS k37_1 (y := 36) (n := 1) (w0 := 0) (w1 := 1) (as := [.ref 177]) (rest := []) (by decide +kernel) rfl rfl rfl rfl (xe_mono (C_X4_clauseKind_177 s0 hG0) ?_)
  rintro s3 v ⟨-, t_s3, z2, rfl, g_z2⟩
  rw [t_s3.nil]
  show xe none 37 4 [(0, .ref 179), (1, .ref 177), (2, vi a)] [vi z2] s0 0 0 _
  refine x_istore_n k37_4 (ls' := [(3, vi z2), (0, .ref 179), (1, .ref 177), (2, vi a)]) (by decide) rfl ?_
  refine x_A k37_5 (fun _ => rfl) ?_
  refine x_A k37_6 (fun _ => rfl) ?_
  refine x_ic_ne k37_7 (t := 19) rfl (by first | exact x_rbe e_z2 g_z2 rfl rfl | exact x_rb g_z2 rfl rfl | exact ⟨by omega, by omega⟩) ⟨by decide, by decide⟩ (fun c4 => ?_) (fun c4 => ?_)
  · skip
    refine x_A k37_19 (fun _ => rfl) ?_
    refine x_bipush k37_20 (by decide +kernel) ?_
    refine x_ic_lt k37_22 (t := 34) rfl (by first | exact x_rb b_a rfl rfl | exact ⟨by omega, by omega⟩) ⟨by decide, by decide⟩ (fun c5 => ?_) (fun c5 => ?_)
    · skip
      refine x_A k37_34 (fun _ => rfl) ?_
      refine x_getI k37_35 (f := 5) rfl (q := 177) (n := 7) (kd := 7) ⟨by decide, rfl⟩ (by decide) rfl ?_
      refine x_top (fun z6 e_z6 => ?_)
      have g_z6 : (0 : Int) ≤ s0 177 5 ∧ s0 177 5 ≤ 5 := hG0 177 5
      refine x_if_eq k37_38 (t := 42) rfl (by first | exact x_rbe e_z6 g_z6 rfl rfl | exact x_rb g_z6 rfl rfl | exact ⟨by omega, by omega⟩) (fun c7 => ?_) (fun c7 => ?_)
      · skip
        refine x_A k37_42 (fun _ => rfl) ?_
        refine x_callV k37_43 (y := 51) (n := 0) (w0 := 0) (w1 := 0) (as := []) (rest := []) (by decide +kernel) (q := 177) (nq := 7) (kq := 7) ⟨by decide, rfl⟩ rfl rfl rfl rfl (xe_mono (C_X6_advance_177 s0 hG0) ?_)
        rintro s9 v ⟨hG_s9, t_s9, rfl⟩
        have f_s9 : FL [1219, 1220, 1221, 1222, 1223, 1600, 1728, 1856] s0 s9 := f0.tr t_s9 (by decide +kernel)
        have q10 : s9 179 5 = z1 := (t_s9 179 5 (show 1350 ∉ [1219, 1220, 1221] from by decide +kernel)).trans e_z1.symm
        have q11 : s9 177 5 = z6 := (t_s9 177 5 (show 1222 ∉ [1219, 1220, 1221] from by decide +kernel)).trans e_z6.symm
        have J_s9 : J s9 := J.fl i0_J t_s9 (by decide +kernel)
        have Nc_s9 : NRr s9 (s0 179 5) a := NRr.fl i0_Nc t_s9 (by decide +kernel)
        show xe none 37 46 [(3, vi z2), (0, .ref 179), (1, .ref 177), (2, vi a)] [] s9 0 0 _
        refine x_A k37_46 (fun _ => rfl) ?_
        refine x_getI k37_47 (f := 3) rfl (q := 177) (n := 7) (kd := 7) ⟨by decide, rfl⟩ (by decide) rfl ?_
        refine x_top (fun z12 e_z12 => ?_)
        have g_z12 : (0 : Int) ≤ s9 177 3 ∧ s9 177 3 ≤ 160 := hG_s9 177 3
        refine x_istore k37_50 (ls' := [(4, vi z12), (3, vi z2), (0, .ref 179), (1, .ref 177), (2, vi a)]) (by decide) rfl ?_
        refine x_A k37_52 (fun _ => rfl) ?_
        refine x_getR k37_53 (f := 2) rfl (q := 179) (n := 6) (kd := 8) ⟨by decide, rfl⟩ (q2 := 182) (by decide) rfl ?_
        refine x_A k37_56 (fun _ => rfl) ?_
        refine x_getI k37_57 (f := 5) rfl (q := 179) (n := 6) (kd := 8) ⟨by decide, rfl⟩ (by decide) rfl ?_
        rw [q10]
        refine x_aald k37_60 (q := 182) (t := 23) (n := 8) ⟨by decide, rfl⟩ (by decide) (by decide) ⟨by omega, by omega⟩ ?_
        refine x_A k37_61 (fun _ => rfl) ?_
        refine x_A k37_62 (fun _ => rfl) ?_
        refine x_iast k37_63 (q := (182 + 1 + z1.toNat)) (n := 8) (xg_183 (by omega) (by omega)) (by decide) (by first | exact x_rbl b_a rfl rfl | exact ⟨by omega, by omega⟩) ?_
        refine x_nh (fun s13 e_s13 => ?_)
        have w14 := gr_183 a.toNat (show 183 ≤ (182 + 1 + z1.toNat) by omega) (by omega)
        have hG_s13 : GI s13 := by rw [e_s13]; exact hG_s9.up (by rw [w14.1, w14.2.1]; exact (show (-1) ≤ z2 ∧ z2 ≤ 6 from (by first | exact x_rbe e_z2 g_z2 rfl rfl | exact x_rb g_z2 rfl rfl | exact ⟨by omega, by omega⟩)))
        have f_s13 : FL [1219, 1220, 1221, 1222, 1223, 1600, 1728, 1856] s0 s13 := by rw [e_s13]; exact f_s9.up (by rw [w14.2.2]; decide)
        have q15 : s13 179 5 = z1 := by rw [e_s13, x_up_q (by omega)]; exact q10
        have q16 : s13 177 5 = z6 := by rw [e_s13, x_up_q (by omega)]; exact q11
        have q17 : s13 177 3 = z12 := by rw [e_s13, x_up_q (by omega)]; exact e_z12.symm
        have q18 : s13 (182 + 1 + z1.toNat) a.toNat = z2 := by rw [e_s13]; exact x_up_same
        have J_s13 : J s13 := by rw [e_s13]; exact J.st J_s9 (q10).symm ⟨by omega, by omega⟩ (Or.inl rfl)
        have Nc_s13 : NRr s13 (s0 179 5) a := by rw [e_s13]; exact NRr.st Nc_s9 (by omega)
        refine x_A k37_64 (fun _ => rfl) ?_
        refine x_getR k37_65 (f := 3) rfl (q := 179) (n := 6) (kd := 8) ⟨by decide, rfl⟩ (q2 := 191) (by decide) rfl ?_
        refine x_A k37_68 (fun _ => rfl) ?_
        refine x_getI k37_69 (f := 5) rfl (q := 179) (n := 6) (kd := 8) ⟨by decide, rfl⟩ (by decide) rfl ?_
        rw [q15]
        refine x_aald k37_72 (q := 191) (t := 23) (n := 8) ⟨by decide, rfl⟩ (by decide) (by decide) ⟨by omega, by omega⟩ ?_
        refine x_A k37_73 (fun _ => rfl) ?_
        refine x_A k37_74 (fun _ => rfl) ?_
        refine x_A k37_75 (fun _ => rfl) ?_
        refine x_callS k37_76 (y := 38) (n := 2) (w0 := 2) (w1 := 2) (as := [.ref 177, vi z2]) (rest := [vi a, .ref (191 + 1 + z1.toNat)]) (by decide +kernel) rfl rfl rfl rfl (xe_mono (C_X4_readFirst_177 s13 hG_s13 z2 (by first | exact x_rbe e_z2 g_z2 rfl rfl | exact x_rb g_z2 rfl rfl | exact ⟨by omega, by omega⟩)) ?_)
        rintro s20 v ⟨hG_s20, t_s20, z19, rfl, g_z19, xp_z19⟩
        have f_s20 : FL [1219, 1220, 1221, 1222, 1223, 1600, 1728, 1856] s0 s20 := f_s13.tr t_s20 (by decide +kernel)
        have q21 : s20 179 5 = z1 := (t_s20 179 5 (show 1350 ∉ [1219, 1220, 1221, 1222, 1223] from by decide +kernel)).trans q15
        have q22 : s20 (182 + 1 + z1.toNat) a.toNat = z2 := (t_s20 (182 + 1 + z1.toNat) a.toNat (by rw [(gr_183 a.toNat (show 183 ≤ (182 + 1 + z1.toNat) by omega) (by omega)).2.2]; decide)).trans q18
        have J_s20 : J s20 := J.fl J_s13 t_s20 (by decide +kernel)
        have Nc_s20 : NRr s20 (s0 179 5) a := NRr.fl Nc_s13 t_s20 (by decide +kernel)
        obtain ⟨z23, e_z23⟩ : ∃ z, z = s20 177 5 := ⟨_, rfl⟩
        have g_z23 : (0 : Int) ≤ s20 177 5 ∧ s20 177 5 ≤ 5 := hG_s20 177 5
        show xe none 37 79 [(4, vi z12), (3, vi z2), (0, .ref 179), (1, .ref 177), (2, vi a)] [vi z19, vi a, .ref (191 + 1 + z1.toNat)] s20 0 0 _
        refine x_iast k37_79 (q := (191 + 1 + z1.toNat)) (n := 8) (xg_192 (by omega) (by omega)) (by decide) (by first | exact x_rbl b_a rfl rfl | exact ⟨by omega, by omega⟩) ?_
        refine x_nh (fun s24 e_s24 => ?_)
        have w25 := gr_192 a.toNat (show 192 ≤ (191 + 1 + z1.toNat) by omega) (by omega)
        have hG_s24 : GI s24 := by rw [e_s24]; exact hG_s20.up (by rw [w25.1, w25.2.1]; exact (show (-1) ≤ z19 ∧ z19 ≤ 99 from (by first | exact x_rbe e_z19 g_z19 rfl rfl | exact x_rb g_z19 rfl rfl | exact ⟨by omega, by omega⟩)))
        have f_s24 : FL [1219, 1220, 1221, 1222, 1223, 1600, 1728, 1856] s0 s24 := by rw [e_s24]; exact f_s20.up (by rw [w25.2.2]; decide)
        have q26 : s24 179 5 = z1 := by rw [e_s24, x_up_q (by omega)]; exact q21
        have q27 : s24 177 5 = z23 := by rw [e_s24, x_up_q (by omega)]; exact e_z23.symm
        have q28 : s24 (182 + 1 + z1.toNat) a.toNat = z2 := by rw [e_s24, x_up_q (by omega)]; exact q22
        have q29 : s24 (191 + 1 + z1.toNat) a.toNat = z19 := by rw [e_s24]; exact x_up_same
        have J_s24 : J s24 := by rw [e_s24]; exact J.st J_s20 (q21).symm ⟨by omega, by omega⟩ (Or.inr (Or.inl rfl))
        have Nc_s24 : NRr s24 (s0 179 5) a := by rw [e_s24]; exact NRr.st Nc_s20 (by omega)
        refine x_A k37_80 (fun _ => rfl) ?_
        refine x_bipush k37_81 (by decide +kernel) ?_
        refine x_ic_ne k37_83 (t := 111) rfl (by first | exact x_rbe e_z2 g_z2 rfl rfl | exact x_rb g_z2 rfl rfl | exact ⟨by omega, by omega⟩) ⟨by decide, by decide⟩ (fun c30 => ?_) (fun c30 => ?_)
        · skip
          refine x_A k37_111 (fun _ => rfl) ?_
          refine x_getR k37_112 (f := 4) rfl (q := 179) (n := 6) (kd := 8) ⟨by decide, rfl⟩ (q2 := 200) (by decide) rfl ?_
          refine x_A k37_115 (fun _ => rfl) ?_
          refine x_getI k37_116 (f := 5) rfl (q := 179) (n := 6) (kd := 8) ⟨by decide, rfl⟩ (by decide) rfl ?_
          rw [q26]
          refine x_aald k37_119 (q := 200) (t := 23) (n := 8) ⟨by decide, rfl⟩ (by decide) (by decide) ⟨by omega, by omega⟩ ?_
          refine x_A k37_120 (fun _ => rfl) ?_
          refine x_A k37_121 (fun _ => rfl) ?_
          refine x_A k37_122 (fun _ => rfl) ?_
          refine x_callS k37_123 (y := 39) (n := 2) (w0 := 2) (w1 := 2) (as := [.ref 177, vi z2]) (rest := [vi a, .ref (200 + 1 + z1.toNat)]) (by decide +kernel) rfl rfl rfl rfl (xe_mono (C_X4_readSecond_177 s24 hG_s24 z2 (by first | exact x_rbe e_z2 g_z2 rfl rfl | exact x_rb g_z2 rfl rfl | exact ⟨by omega, by omega⟩)) ?_)
          rintro s32 v ⟨hG_s32, t_s32, z31, rfl, g_z31, xp_z31⟩
          have f_s32 : FL [1219, 1220, 1221, 1222, 1223, 1600, 1728, 1856] s0 s32 := f_s24.tr t_s32 (by decide +kernel)
          have q33 : s32 179 5 = z1 := (t_s32 179 5 (show 1350 ∉ [1219, 1220, 1221, 1222, 1223] from by decide +kernel)).trans q26
          have q34 : s32 (182 + 1 + z1.toNat) a.toNat = z2 := (t_s32 (182 + 1 + z1.toNat) a.toNat (by rw [(gr_183 a.toNat (show 183 ≤ (182 + 1 + z1.toNat) by omega) (by omega)).2.2]; decide)).trans q28
          have q35 : s32 (191 + 1 + z1.toNat) a.toNat = z19 := (t_s32 (191 + 1 + z1.toNat) a.toNat (by rw [(gr_192 a.toNat (show 192 ≤ (191 + 1 + z1.toNat) by omega) (by omega)).2.2]; decide)).trans q29
          have J_s32 : J s32 := J.fl J_s24 t_s32 (by decide +kernel)
          have Nc_s32 : NRr s32 (s0 179 5) a := NRr.fl Nc_s24 t_s32 (by decide +kernel)
          obtain ⟨z36, e_z36⟩ : ∃ z, z = s32 177 5 := ⟨_, rfl⟩
          have g_z36 : (0 : Int) ≤ s32 177 5 ∧ s32 177 5 ≤ 5 := hG_s32 177 5
          show xe none 37 126 [(4, vi z12), (3, vi z2), (0, .ref 179), (1, .ref 177), (2, vi a)] [vi z31, vi a, .ref (200 + 1 + z1.toNat)] s32 0 0 _
          refine x_iast k37_126 (q := (200 + 1 + z1.toNat)) (n := 8) (xg_201 (by omega) (by omega)) (by decide) (by first | exact x_rbl b_a rfl rfl | exact ⟨by omega, by omega⟩) ?_
          refine x_nh (fun s37 e_s37 => ?_)
          have w38 := gr_201 a.toNat (show 201 ≤ (200 + 1 + z1.toNat) by omega) (by omega)
          have hG_s37 : GI s37 := by rw [e_s37]; exact hG_s32.up (by rw [w38.1, w38.2.1]; exact (show (-1) ≤ z31 ∧ z31 ≤ 99 from (by first | exact x_rbe e_z31 g_z31 rfl rfl | exact x_rb g_z31 rfl rfl | exact ⟨by omega, by omega⟩)))
          have f_s37 : FL [1219, 1220, 1221, 1222, 1223, 1600, 1728, 1856] s0 s37 := by rw [e_s37]; exact f_s32.up (by rw [w38.2.2]; decide)
          have q39 : s37 179 5 = z1 := by rw [e_s37, x_up_q (by omega)]; exact q33
          have q40 : s37 177 5 = z36 := by rw [e_s37, x_up_q (by omega)]; exact e_z36.symm
          have q41 : s37 (182 + 1 + z1.toNat) a.toNat = z2 := by rw [e_s37, x_up_q (by omega)]; exact q34
          have q42 : s37 (191 + 1 + z1.toNat) a.toNat = z19 := by rw [e_s37, x_up_q (by omega)]; exact q35
          have q43 : s37 (200 + 1 + z1.toNat) a.toNat = z31 := by rw [e_s37]; exact x_up_same
          have J_s37 : J s37 := by rw [e_s37]; exact J.st J_s32 (q33).symm ⟨by omega, by omega⟩ (Or.inr (Or.inr rfl))
          have Nc_s37 : NRr s37 (s0 179 5) a := by rw [e_s37]; exact NRr.st Nc_s32 (by omega)
          refine x_A k37_127 (fun _ => rfl) ?_
          refine x_bipush k37_128 (by decide +kernel) ?_
          refine x_callV k37_130 (y := 56) (n := 1) (w0 := 0) (w1 := 1) (as := [vi 59]) (rest := []) (by decide +kernel) (q := 177) (nq := 7) (kq := 7) ⟨by decide, rfl⟩ rfl rfl rfl rfl (xe_mono (C_X6_takeSign_177 s37 hG_s37 59 ⟨by decide, by decide⟩) ?_)
          rintro s45 v ⟨hG_s45, t_s45, rfl, xp_z44⟩
          have f_s45 : FL [1219, 1220, 1221, 1222, 1223, 1600, 1728, 1856] s0 s45 := f_s37.tr t_s45 (by decide +kernel)
          have q46 : s45 179 5 = z1 := (t_s45 179 5 (show 1350 ∉ [1219, 1220, 1221, 1222, 1223] from by decide +kernel)).trans q39
          have q47 : s45 (182 + 1 + z1.toNat) a.toNat = z2 := (t_s45 (182 + 1 + z1.toNat) a.toNat (by rw [(gr_183 a.toNat (show 183 ≤ (182 + 1 + z1.toNat) by omega) (by omega)).2.2]; decide)).trans q41
          have q48 : s45 (191 + 1 + z1.toNat) a.toNat = z19 := (t_s45 (191 + 1 + z1.toNat) a.toNat (by rw [(gr_192 a.toNat (show 192 ≤ (191 + 1 + z1.toNat) by omega) (by omega)).2.2]; decide)).trans q42
          have q49 : s45 (200 + 1 + z1.toNat) a.toNat = z31 := (t_s45 (200 + 1 + z1.toNat) a.toNat (by rw [(gr_201 a.toNat (show 201 ≤ (200 + 1 + z1.toNat) by omega) (by omega)).2.2]; decide)).trans q43
          have J_s45 : J s45 := J.fl J_s37 t_s45 (by decide +kernel)
          have Nc_s45 : NRr s45 (s0 179 5) a := NRr.fl Nc_s37 t_s45 (by decide +kernel)
          obtain ⟨z50, e_z50⟩ : ∃ z, z = s45 177 5 := ⟨_, rfl⟩
          have g_z50 : (0 : Int) ≤ s45 177 5 ∧ s45 177 5 ≤ 5 := hG_s45 177 5
          show xe none 37 133 [(4, vi z12), (3, vi z2), (0, .ref 179), (1, .ref 177), (2, vi a)] [] s45 0 0 _
          exact x_vret k37_133 rfl ⟨hG_s45, f_s45, rfl, (fun hz => ⟨by omega, by omega, NRr.add Nc_s45 (k := z2) (a := z19) (b := z31) (by omega) (by rw [← e_z1]; exact q47) (by rw [← e_z1]; exact q48) (by rw [← e_z1]; exact q49) (by omega)⟩), J_s45, Nc_s45⟩
        · skip
          refine x_A k37_86 (fun _ => rfl) ?_
          refine x_getR k37_87 (f := 3) rfl (q := 179) (n := 6) (kd := 8) ⟨by decide, rfl⟩ (q2 := 191) (by decide) rfl ?_
          refine x_A k37_90 (fun _ => rfl) ?_
          refine x_getI k37_91 (f := 5) rfl (q := 179) (n := 6) (kd := 8) ⟨by decide, rfl⟩ (by decide) rfl ?_
          rw [q26]
          refine x_aald k37_94 (q := 191) (t := 23) (n := 8) ⟨by decide, rfl⟩ (by decide) (by decide) ⟨by omega, by omega⟩ ?_
          refine x_A k37_95 (fun _ => rfl) ?_
          refine x_iald k37_96 (q := (191 + 1 + z1.toNat)) (n := 8) (xg_192 (by omega) (by omega)) (by decide) (by first | exact x_rbl b_a rfl rfl | exact ⟨by omega, by omega⟩) ?_
          rw [q29]
          refine x_A k37_97 (fun _ => rfl) ?_
          refine x_getI k37_98 (f := 5) rfl (q := 179) (n := 6) (kd := 8) ⟨by decide, rfl⟩ (by decide) rfl ?_
          rw [q26]
          refine x_ic_lt k37_101 (t := 111) rfl (by first | exact x_rbe e_z19 g_z19 rfl rfl | exact x_rb g_z19 rfl rfl | exact ⟨by omega, by omega⟩) (by first | exact x_rbe e_z1 g_z1 rfl rfl | exact x_rb g_z1 rfl rfl | exact ⟨by omega, by omega⟩) (fun c51 => ?_) (fun c51 => ?_)
          · skip
            refine x_A k37_111 (fun _ => rfl) ?_
            refine x_getR k37_112 (f := 4) rfl (q := 179) (n := 6) (kd := 8) ⟨by decide, rfl⟩ (q2 := 200) (by decide) rfl ?_
            refine x_A k37_115 (fun _ => rfl) ?_
            refine x_getI k37_116 (f := 5) rfl (q := 179) (n := 6) (kd := 8) ⟨by decide, rfl⟩ (by decide) rfl ?_
            rw [q26]
            refine x_aald k37_119 (q := 200) (t := 23) (n := 8) ⟨by decide, rfl⟩ (by decide) (by decide) ⟨by omega, by omega⟩ ?_
            refine x_A k37_120 (fun _ => rfl) ?_
            refine x_A k37_121 (fun _ => rfl) ?_
            refine x_A k37_122 (fun _ => rfl) ?_
            refine x_callS k37_123 (y := 39) (n := 2) (w0 := 2) (w1 := 2) (as := [.ref 177, vi z2]) (rest := [vi a, .ref (200 + 1 + z1.toNat)]) (by decide +kernel) rfl rfl rfl rfl (xe_mono (C_X4_readSecond_177 s24 hG_s24 z2 (by first | exact x_rbe e_z2 g_z2 rfl rfl | exact x_rb g_z2 rfl rfl | exact ⟨by omega, by omega⟩)) ?_)
            rintro s53 v ⟨hG_s53, t_s53, z52, rfl, g_z52, xp_z52⟩
            have f_s53 : FL [1219, 1220, 1221, 1222, 1223, 1600, 1728, 1856] s0 s53 := f_s24.tr t_s53 (by decide +kernel)
            have q54 : s53 179 5 = z1 := (t_s53 179 5 (show 1350 ∉ [1219, 1220, 1221, 1222, 1223] from by decide +kernel)).trans q26
            have q55 : s53 (182 + 1 + z1.toNat) a.toNat = z2 := (t_s53 (182 + 1 + z1.toNat) a.toNat (by rw [(gr_183 a.toNat (show 183 ≤ (182 + 1 + z1.toNat) by omega) (by omega)).2.2]; decide)).trans q28
            have q56 : s53 (191 + 1 + z1.toNat) a.toNat = z19 := (t_s53 (191 + 1 + z1.toNat) a.toNat (by rw [(gr_192 a.toNat (show 192 ≤ (191 + 1 + z1.toNat) by omega) (by omega)).2.2]; decide)).trans q29
            have J_s53 : J s53 := J.fl J_s24 t_s53 (by decide +kernel)
            have Nc_s53 : NRr s53 (s0 179 5) a := NRr.fl Nc_s24 t_s53 (by decide +kernel)
            obtain ⟨z57, e_z57⟩ : ∃ z, z = s53 177 5 := ⟨_, rfl⟩
            have g_z57 : (0 : Int) ≤ s53 177 5 ∧ s53 177 5 ≤ 5 := hG_s53 177 5
            show xe none 37 126 [(4, vi z12), (3, vi z2), (0, .ref 179), (1, .ref 177), (2, vi a)] [vi z52, vi a, .ref (200 + 1 + z1.toNat)] s53 0 0 _
            refine x_iast k37_126 (q := (200 + 1 + z1.toNat)) (n := 8) (xg_201 (by omega) (by omega)) (by decide) (by first | exact x_rbl b_a rfl rfl | exact ⟨by omega, by omega⟩) ?_
            refine x_nh (fun s58 e_s58 => ?_)
            have w59 := gr_201 a.toNat (show 201 ≤ (200 + 1 + z1.toNat) by omega) (by omega)
            have hG_s58 : GI s58 := by rw [e_s58]; exact hG_s53.up (by rw [w59.1, w59.2.1]; exact (show (-1) ≤ z52 ∧ z52 ≤ 99 from (by first | exact x_rbe e_z52 g_z52 rfl rfl | exact x_rb g_z52 rfl rfl | exact ⟨by omega, by omega⟩)))
            have f_s58 : FL [1219, 1220, 1221, 1222, 1223, 1600, 1728, 1856] s0 s58 := by rw [e_s58]; exact f_s53.up (by rw [w59.2.2]; decide)
            have q60 : s58 179 5 = z1 := by rw [e_s58, x_up_q (by omega)]; exact q54
            have q61 : s58 177 5 = z57 := by rw [e_s58, x_up_q (by omega)]; exact e_z57.symm
            have q62 : s58 (182 + 1 + z1.toNat) a.toNat = z2 := by rw [e_s58, x_up_q (by omega)]; exact q55
            have q63 : s58 (191 + 1 + z1.toNat) a.toNat = z19 := by rw [e_s58, x_up_q (by omega)]; exact q56
            have q64 : s58 (200 + 1 + z1.toNat) a.toNat = z52 := by rw [e_s58]; exact x_up_same
            have J_s58 : J s58 := by rw [e_s58]; exact J.st J_s53 (q54).symm ⟨by omega, by omega⟩ (Or.inr (Or.inr rfl))
            have Nc_s58 : NRr s58 (s0 179 5) a := by rw [e_s58]; exact NRr.st Nc_s53 (by omega)
            refine x_A k37_127 (fun _ => rfl) ?_
            refine x_bipush k37_128 (by decide +kernel) ?_
            refine x_callV k37_130 (y := 56) (n := 1) (w0 := 0) (w1 := 1) (as := [vi 59]) (rest := []) (by decide +kernel) (q := 177) (nq := 7) (kq := 7) ⟨by decide, rfl⟩ rfl rfl rfl rfl (xe_mono (C_X6_takeSign_177 s58 hG_s58 59 ⟨by decide, by decide⟩) ?_)
            rintro s66 v ⟨hG_s66, t_s66, rfl, xp_z65⟩
            have f_s66 : FL [1219, 1220, 1221, 1222, 1223, 1600, 1728, 1856] s0 s66 := f_s58.tr t_s66 (by decide +kernel)
            have q67 : s66 179 5 = z1 := (t_s66 179 5 (show 1350 ∉ [1219, 1220, 1221, 1222, 1223] from by decide +kernel)).trans q60
            have q68 : s66 (182 + 1 + z1.toNat) a.toNat = z2 := (t_s66 (182 + 1 + z1.toNat) a.toNat (by rw [(gr_183 a.toNat (show 183 ≤ (182 + 1 + z1.toNat) by omega) (by omega)).2.2]; decide)).trans q62
            have q69 : s66 (191 + 1 + z1.toNat) a.toNat = z19 := (t_s66 (191 + 1 + z1.toNat) a.toNat (by rw [(gr_192 a.toNat (show 192 ≤ (191 + 1 + z1.toNat) by omega) (by omega)).2.2]; decide)).trans q63
            have q70 : s66 (200 + 1 + z1.toNat) a.toNat = z52 := (t_s66 (200 + 1 + z1.toNat) a.toNat (by rw [(gr_201 a.toNat (show 201 ≤ (200 + 1 + z1.toNat) by omega) (by omega)).2.2]; decide)).trans q64
            have J_s66 : J s66 := J.fl J_s58 t_s66 (by decide +kernel)
            have Nc_s66 : NRr s66 (s0 179 5) a := NRr.fl Nc_s58 t_s66 (by decide +kernel)
            obtain ⟨z71, e_z71⟩ : ∃ z, z = s66 177 5 := ⟨_, rfl⟩
            have g_z71 : (0 : Int) ≤ s66 177 5 ∧ s66 177 5 ≤ 5 := hG_s66 177 5
            show xe none 37 133 [(4, vi z12), (3, vi z2), (0, .ref 179), (1, .ref 177), (2, vi a)] [] s66 0 0 _
            exact x_vret k37_133 rfl ⟨hG_s66, f_s66, rfl, (fun hz => ⟨by omega, by omega, NRr.add Nc_s66 (k := z2) (a := z19) (b := z52) (by omega) (by rw [← e_z1]; exact q68) (by rw [← e_z1]; exact q69) (by rw [← e_z1]; exact q70) (by omega)⟩), J_s66, Nc_s66⟩
          · skip
            refine x_A k37_104 (fun _ => rfl) ?_
            refine x_A k37_105 (fun _ => rfl) ?_
            refine x_A k37_106 (fun _ => rfl) ?_
            refine x_callV k37_108 (y := 52) (n := 2) (w0 := 0) (w1 := 2) (as := [vi 3, vi z12]) (rest := []) (by decide +kernel) (q := 177) (nq := 7) (kq := 7) ⟨by decide, rfl⟩ rfl rfl rfl rfl (xe_mono (C_X6_fail_177 s24 hG_s24 3 ⟨by decide, by decide⟩ z12 (by first | exact x_rbe e_z12 g_z12 rfl rfl | exact x_rb g_z12 rfl rfl | exact ⟨by omega, by omega⟩)) ?_)
            rintro s73 v ⟨hG_s73, t_s73, rfl, xp_z72⟩
            have f_s73 : FL [1219, 1220, 1221, 1222, 1223, 1600, 1728, 1856] s0 s73 := f_s24.tr t_s73 (by decide +kernel)
            have q74 : s73 179 5 = z1 := (t_s73 179 5 (show 1350 ∉ [1222, 1223] from by decide +kernel)).trans q26
            have q75 : s73 (182 + 1 + z1.toNat) a.toNat = z2 := (t_s73 (182 + 1 + z1.toNat) a.toNat (by rw [(gr_183 a.toNat (show 183 ≤ (182 + 1 + z1.toNat) by omega) (by omega)).2.2]; decide)).trans q28
            have q76 : s73 (191 + 1 + z1.toNat) a.toNat = z19 := (t_s73 (191 + 1 + z1.toNat) a.toNat (by rw [(gr_192 a.toNat (show 192 ≤ (191 + 1 + z1.toNat) by omega) (by omega)).2.2]; decide)).trans q29
            have J_s73 : J s73 := J.fl J_s24 t_s73 (by decide +kernel)
            have Nc_s73 : NRr s73 (s0 179 5) a := NRr.fl Nc_s24 t_s73 (by decide +kernel)
            obtain ⟨z77, e_z77⟩ : ∃ z, z = s73 177 5 := ⟨_, rfl⟩
            have g_z77 : (0 : Int) ≤ s73 177 5 ∧ s73 177 5 ≤ 5 := hG_s73 177 5
            show xe none 37 111 [(4, vi z12), (3, vi z2), (0, .ref 179), (1, .ref 177), (2, vi a)] [] s73 0 0 _
            refine x_A k37_111 (fun _ => rfl) ?_
            refine x_getR k37_112 (f := 4) rfl (q := 179) (n := 6) (kd := 8) ⟨by decide, rfl⟩ (q2 := 200) (by decide) rfl ?_
            refine x_A k37_115 (fun _ => rfl) ?_
            refine x_getI k37_116 (f := 5) rfl (q := 179) (n := 6) (kd := 8) ⟨by decide, rfl⟩ (by decide) rfl ?_
            rw [q74]
            refine x_aald k37_119 (q := 200) (t := 23) (n := 8) ⟨by decide, rfl⟩ (by decide) (by decide) ⟨by omega, by omega⟩ ?_
            refine x_A k37_120 (fun _ => rfl) ?_
            refine x_A k37_121 (fun _ => rfl) ?_
            refine x_A k37_122 (fun _ => rfl) ?_
            refine x_callS k37_123 (y := 39) (n := 2) (w0 := 2) (w1 := 2) (as := [.ref 177, vi z2]) (rest := [vi a, .ref (200 + 1 + z1.toNat)]) (by decide +kernel) rfl rfl rfl rfl (xe_mono (C_X4_readSecond_177 s73 hG_s73 z2 (by first | exact x_rbe e_z2 g_z2 rfl rfl | exact x_rb g_z2 rfl rfl | exact ⟨by omega, by omega⟩)) ?_)
            rintro s79 v ⟨hG_s79, t_s79, z78, rfl, g_z78, xp_z78⟩
            have f_s79 : FL [1219, 1220, 1221, 1222, 1223, 1600, 1728, 1856] s0 s79 := f_s73.tr t_s79 (by decide +kernel)
            have q80 : s79 179 5 = z1 := (t_s79 179 5 (show 1350 ∉ [1219, 1220, 1221, 1222, 1223] from by decide +kernel)).trans q74
            have q81 : s79 (182 + 1 + z1.toNat) a.toNat = z2 := (t_s79 (182 + 1 + z1.toNat) a.toNat (by rw [(gr_183 a.toNat (show 183 ≤ (182 + 1 + z1.toNat) by omega) (by omega)).2.2]; decide)).trans q75
            have q82 : s79 (191 + 1 + z1.toNat) a.toNat = z19 := (t_s79 (191 + 1 + z1.toNat) a.toNat (by rw [(gr_192 a.toNat (show 192 ≤ (191 + 1 + z1.toNat) by omega) (by omega)).2.2]; decide)).trans q76
            have J_s79 : J s79 := J.fl J_s73 t_s79 (by decide +kernel)
            have Nc_s79 : NRr s79 (s0 179 5) a := NRr.fl Nc_s73 t_s79 (by decide +kernel)
            obtain ⟨z83, e_z83⟩ : ∃ z, z = s79 177 5 := ⟨_, rfl⟩
            have g_z83 : (0 : Int) ≤ s79 177 5 ∧ s79 177 5 ≤ 5 := hG_s79 177 5
            show xe none 37 126 [(4, vi z12), (3, vi z2), (0, .ref 179), (1, .ref 177), (2, vi a)] [vi z78, vi a, .ref (200 + 1 + z1.toNat)] s79 0 0 _
            refine x_iast k37_126 (q := (200 + 1 + z1.toNat)) (n := 8) (xg_201 (by omega) (by omega)) (by decide) (by first | exact x_rbl b_a rfl rfl | exact ⟨by omega, by omega⟩) ?_
            refine x_nh (fun s84 e_s84 => ?_)
            have w85 := gr_201 a.toNat (show 201 ≤ (200 + 1 + z1.toNat) by omega) (by omega)
            have hG_s84 : GI s84 := by rw [e_s84]; exact hG_s79.up (by rw [w85.1, w85.2.1]; exact (show (-1) ≤ z78 ∧ z78 ≤ 99 from (by first | exact x_rbe e_z78 g_z78 rfl rfl | exact x_rb g_z78 rfl rfl | exact ⟨by omega, by omega⟩)))
            have f_s84 : FL [1219, 1220, 1221, 1222, 1223, 1600, 1728, 1856] s0 s84 := by rw [e_s84]; exact f_s79.up (by rw [w85.2.2]; decide)
            have q86 : s84 179 5 = z1 := by rw [e_s84, x_up_q (by omega)]; exact q80
            have q87 : s84 177 5 = z83 := by rw [e_s84, x_up_q (by omega)]; exact e_z83.symm
            have q88 : s84 (182 + 1 + z1.toNat) a.toNat = z2 := by rw [e_s84, x_up_q (by omega)]; exact q81
            have q89 : s84 (191 + 1 + z1.toNat) a.toNat = z19 := by rw [e_s84, x_up_q (by omega)]; exact q82
            have q90 : s84 (200 + 1 + z1.toNat) a.toNat = z78 := by rw [e_s84]; exact x_up_same
            have J_s84 : J s84 := by rw [e_s84]; exact J.st J_s79 (q80).symm ⟨by omega, by omega⟩ (Or.inr (Or.inr rfl))
            have Nc_s84 : NRr s84 (s0 179 5) a := by rw [e_s84]; exact NRr.st Nc_s79 (by omega)
            refine x_A k37_127 (fun _ => rfl) ?_
            refine x_bipush k37_128 (by decide +kernel) ?_
            refine x_callV k37_130 (y := 56) (n := 1) (w0 := 0) (w1 := 1) (as := [vi 59]) (rest := []) (by decide +kernel) (q := 177) (nq := 7) (kq := 7) ⟨by decide, rfl⟩ rfl rfl rfl rfl (xe_mono (C_X6_takeSign_177 s84 hG_s84 59 ⟨by decide, by decide⟩) ?_)
            rintro s92 v ⟨hG_s92, t_s92, rfl, xp_z91⟩
            have f_s92 : FL [1219, 1220, 1221, 1222, 1223, 1600, 1728, 1856] s0 s92 := f_s84.tr t_s92 (by decide +kernel)
            have q93 : s92 179 5 = z1 := (t_s92 179 5 (show 1350 ∉ [1219, 1220, 1221, 1222, 1223] from by decide +kernel)).trans q86
            have q94 : s92 (182 + 1 + z1.toNat) a.toNat = z2 := (t_s92 (182 + 1 + z1.toNat) a.toNat (by rw [(gr_183 a.toNat (show 183 ≤ (182 + 1 + z1.toNat) by omega) (by omega)).2.2]; decide)).trans q88
            have q95 : s92 (191 + 1 + z1.toNat) a.toNat = z19 := (t_s92 (191 + 1 + z1.toNat) a.toNat (by rw [(gr_192 a.toNat (show 192 ≤ (191 + 1 + z1.toNat) by omega) (by omega)).2.2]; decide)).trans q89
            have q96 : s92 (200 + 1 + z1.toNat) a.toNat = z78 := (t_s92 (200 + 1 + z1.toNat) a.toNat (by rw [(gr_201 a.toNat (show 201 ≤ (200 + 1 + z1.toNat) by omega) (by omega)).2.2]; decide)).trans q90
            have J_s92 : J s92 := J.fl J_s84 t_s92 (by decide +kernel)
            have Nc_s92 : NRr s92 (s0 179 5) a := NRr.fl Nc_s84 t_s92 (by decide +kernel)
            obtain ⟨z97, e_z97⟩ : ∃ z, z = s92 177 5 := ⟨_, rfl⟩
            have g_z97 : (0 : Int) ≤ s92 177 5 ∧ s92 177 5 ≤ 5 := hG_s92 177 5
            show xe none 37 133 [(4, vi z12), (3, vi z2), (0, .ref 179), (1, .ref 177), (2, vi a)] [] s92 0 0 _
            exact x_vret k37_133 rfl ⟨hG_s92, f_s92, rfl, (fun hz => ⟨by omega, by omega, NRr.add Nc_s92 (k := z2) (a := z19) (b := z78) (by omega) (by rw [← e_z1]; exact q94) (by rw [← e_z1]; exact q95) (by rw [← e_z1]; exact q96) (by omega)⟩), J_s92, Nc_s92⟩
      · skip
        exact x_vret k37_41 rfl ⟨hG0, f0, rfl, (fun hz => by exfalso; omega), i0_J, i0_Nc⟩
    · skip
      refine x_A k37_25 (fun _ => rfl) ?_
      refine x_A k37_26 (fun _ => rfl) ?_
      refine x_A k37_27 (fun _ => rfl) ?_
      refine x_getI k37_28 (f := 3) rfl (q := 177) (n := 7) (kd := 7) ⟨by decide, rfl⟩ (by decide) rfl ?_
      refine x_top (fun z98 e_z98 => ?_)
      have g_z98 : (0 : Int) ≤ s0 177 3 ∧ s0 177 3 ≤ 160 := hG0 177 3
      refine x_callV k37_31 (y := 52) (n := 2) (w0 := 0) (w1 := 2) (as := [vi 4, vi z98]) (rest := []) (by decide +kernel) (q := 177) (nq := 7) (kq := 7) ⟨by decide, rfl⟩ rfl rfl rfl rfl (xe_mono (C_X6_fail_177 s0 hG0 4 ⟨by decide, by decide⟩ z98 (by first | exact x_rbe e_z98 g_z98 rfl rfl | exact x_rb g_z98 rfl rfl | exact ⟨by omega, by omega⟩)) ?_)
      rintro s100 v ⟨hG_s100, t_s100, rfl, xp_z99⟩
      have f_s100 : FL [1219, 1220, 1221, 1222, 1223, 1600, 1728, 1856] s0 s100 := f0.tr t_s100 (by decide +kernel)
      have q101 : s100 179 5 = z1 := (t_s100 179 5 (show 1350 ∉ [1222, 1223] from by decide +kernel)).trans e_z1.symm
      have q102 : s100 177 3 = z98 := (t_s100 177 3 (show 1220 ∉ [1222, 1223] from by decide +kernel)).trans e_z98.symm
      have J_s100 : J s100 := J.fl i0_J t_s100 (by decide +kernel)
      have Nc_s100 : NRr s100 (s0 179 5) a := NRr.fl i0_Nc t_s100 (by decide +kernel)
      obtain ⟨z103, e_z103⟩ : ∃ z, z = s100 177 5 := ⟨_, rfl⟩
      have g_z103 : (0 : Int) ≤ s100 177 5 ∧ s100 177 5 ≤ 5 := hG_s100 177 5
      show xe none 37 34 [(3, vi z2), (0, .ref 179), (1, .ref 177), (2, vi a)] [] s100 0 0 _
      refine x_A k37_34 (fun _ => rfl) ?_
      refine x_getI k37_35 (f := 5) rfl (q := 177) (n := 7) (kd := 7) ⟨by decide, rfl⟩ (by decide) rfl ?_
      rw [e_z103.symm]
      refine x_if_eq k37_38 (t := 42) rfl (by first | exact x_rbe e_z103 g_z103 rfl rfl | exact x_rb g_z103 rfl rfl | exact ⟨by omega, by omega⟩) (fun c104 => by exfalso; omega) (fun c104 => ?_)
      exact x_vret k37_41 rfl ⟨hG_s100, f_s100, rfl, (fun hz => by exfalso; omega), J_s100, Nc_s100⟩
  · skip
    refine x_A k37_10 (fun _ => rfl) ?_
    refine x_A k37_11 (fun _ => rfl) ?_
    refine x_A k37_12 (fun _ => rfl) ?_
    refine x_getI k37_13 (f := 3) rfl (q := 177) (n := 7) (kd := 7) ⟨by decide, rfl⟩ (by decide) rfl ?_
    refine x_top (fun z105 e_z105 => ?_)
    have g_z105 : (0 : Int) ≤ s0 177 3 ∧ s0 177 3 ≤ 160 := hG0 177 3
    refine x_callV k37_16 (y := 52) (n := 2) (w0 := 0) (w1 := 2) (as := [vi 1, vi z105]) (rest := []) (by decide +kernel) (q := 177) (nq := 7) (kq := 7) ⟨by decide, rfl⟩ rfl rfl rfl rfl (xe_mono (C_X6_fail_177 s0 hG0 1 ⟨by decide, by decide⟩ z105 (by first | exact x_rbe e_z105 g_z105 rfl rfl | exact x_rb g_z105 rfl rfl | exact ⟨by omega, by omega⟩)) ?_)
    rintro s107 v ⟨hG_s107, t_s107, rfl, xp_z106⟩
    have f_s107 : FL [1219, 1220, 1221, 1222, 1223, 1600, 1728, 1856] s0 s107 := f0.tr t_s107 (by decide +kernel)
    have q108 : s107 179 5 = z1 := (t_s107 179 5 (show 1350 ∉ [1222, 1223] from by decide +kernel)).trans e_z1.symm
    have q109 : s107 177 3 = z105 := (t_s107 177 3 (show 1220 ∉ [1222, 1223] from by decide +kernel)).trans e_z105.symm
    have J_s107 : J s107 := J.fl i0_J t_s107 (by decide +kernel)
    have Nc_s107 : NRr s107 (s0 179 5) a := NRr.fl i0_Nc t_s107 (by decide +kernel)
    obtain ⟨z110, e_z110⟩ : ∃ z, z = s107 177 5 := ⟨_, rfl⟩
    have g_z110 : (0 : Int) ≤ s107 177 5 ∧ s107 177 5 ≤ 5 := hG_s107 177 5
    show xe none 37 19 [(3, vi z2), (0, .ref 179), (1, .ref 177), (2, vi a)] [] s107 0 0 _
    refine x_A k37_19 (fun _ => rfl) ?_
    refine x_bipush k37_20 (by decide +kernel) ?_
    refine x_ic_lt k37_22 (t := 34) rfl (by first | exact x_rb b_a rfl rfl | exact ⟨by omega, by omega⟩) ⟨by decide, by decide⟩ (fun c111 => ?_) (fun c111 => ?_)
    · skip
      refine x_A k37_34 (fun _ => rfl) ?_
      refine x_getI k37_35 (f := 5) rfl (q := 177) (n := 7) (kd := 7) ⟨by decide, rfl⟩ (by decide) rfl ?_
      rw [e_z110.symm]
      refine x_if_eq k37_38 (t := 42) rfl (by first | exact x_rbe e_z110 g_z110 rfl rfl | exact x_rb g_z110 rfl rfl | exact ⟨by omega, by omega⟩) (fun c112 => by exfalso; omega) (fun c112 => ?_)
      exact x_vret k37_41 rfl ⟨hG_s107, f_s107, rfl, (fun hz => by exfalso; omega), J_s107, Nc_s107⟩
    · skip
      refine x_A k37_25 (fun _ => rfl) ?_
      refine x_A k37_26 (fun _ => rfl) ?_
      refine x_A k37_27 (fun _ => rfl) ?_
      refine x_getI k37_28 (f := 3) rfl (q := 177) (n := 7) (kd := 7) ⟨by decide, rfl⟩ (by decide) rfl ?_
      rw [q109]
      refine x_callV k37_31 (y := 52) (n := 2) (w0 := 0) (w1 := 2) (as := [vi 4, vi z105]) (rest := []) (by decide +kernel) (q := 177) (nq := 7) (kq := 7) ⟨by decide, rfl⟩ rfl rfl rfl rfl (xe_mono (C_X6_fail_177 s107 hG_s107 4 ⟨by decide, by decide⟩ z105 (by first | exact x_rbe e_z105 g_z105 rfl rfl | exact x_rb g_z105 rfl rfl | exact ⟨by omega, by omega⟩)) ?_)
      rintro s114 v ⟨hG_s114, t_s114, rfl, xp_z113⟩
      have f_s114 : FL [1219, 1220, 1221, 1222, 1223, 1600, 1728, 1856] s0 s114 := f_s107.tr t_s114 (by decide +kernel)
      have q115 : s114 179 5 = z1 := (t_s114 179 5 (show 1350 ∉ [1222, 1223] from by decide +kernel)).trans q108
      have q116 : s114 177 3 = z105 := (t_s114 177 3 (show 1220 ∉ [1222, 1223] from by decide +kernel)).trans q109
      have J_s114 : J s114 := J.fl J_s107 t_s114 (by decide +kernel)
      have Nc_s114 : NRr s114 (s0 179 5) a := NRr.fl Nc_s107 t_s114 (by decide +kernel)
      obtain ⟨z117, e_z117⟩ : ∃ z, z = s114 177 5 := ⟨_, rfl⟩
      have g_z117 : (0 : Int) ≤ s114 177 5 ∧ s114 177 5 ≤ 5 := hG_s114 177 5
      show xe none 37 34 [(3, vi z2), (0, .ref 179), (1, .ref 177), (2, vi a)] [] s114 0 0 _
      refine x_A k37_34 (fun _ => rfl) ?_
      refine x_getI k37_35 (f := 5) rfl (q := 177) (n := 7) (kd := 7) ⟨by decide, rfl⟩ (by decide) rfl ?_
      rw [e_z117.symm]
      refine x_if_eq k37_38 (t := 42) rfl (by first | exact x_rbe e_z117 g_z117 rfl rfl | exact x_rb g_z117 rfl rfl | exact ⟨by omega, by omega⟩) (fun c118 => by exfalso; omega) (fun c118 => ?_)
      exact x_vret k37_41 rfl ⟨hG_s114, f_s114, rfl, (fun hz => by exfalso; omega), J_s114, Nc_s114⟩
theorem L_C_X4_read_179_177_16 (s0 : xS)   : ∀ (n : Nat) (s : xS) (x2 : Int) (x3 : Int) (x1000 : Int) (x1001 : Int) (hG : GI s) (f : FL [1219, 1220, 1221, 1222, 1223, 1600, 1728, 1856, 1408, 1472, 1350] s0 s) (b_x2 : 0 ≤ x2 ∧ x2 ≤ 9) (b_x3 : 0 ≤ x3 ∧ x3 ≤ 9) (b_x1000 : 0 ≤ x1000 ∧ x1000 ≤ 7) (b_x1001 : 0 ≤ x1001 ∧ x1001 ≤ 5) (w_0 : x1000 = s0 179 5) (w_1 : s 177 5 = 0 → NRr s (s0 179 5) x3) (e_x1000 : x1000 = s 179 5) (e_x1001 : x1001 = s 177 5) (i_J : J s)  (hm : (9 - x3) < (n : Int)), xe none 35 16 [(0, .ref 179), (1, .ref 177), (2, vi x2), (3, vi x3)] [] s 0 0 (fun s' v => GI s' ∧ FL [1219, 1220, 1221, 1222, 1223, 1600, 1728, 1856, 1408, 1472, 1350] s0 s' ∧ v = none ∧ J s') := by
  intro n
  induction n with
  | zero => intro s x2 x3 x1000 x1001 hG f b_x2 b_x3 b_x1000 b_x1001 w_0 w_1 e_x1000 e_x1001 i_J  hm; exfalso; omega
  | succ n ih =>
    intro s x2 x3 x1000 x1001 hG f b_x2 b_x3 b_x1000 b_x1001 w_0 w_1 e_x1000 e_x1001 i_J  hm
    refine x_A k35_16 (fun _ => rfl) ?_
    refine x_bipush k35_17 (by decide +kernel) ?_
    refine x_ic_gt k35_19 (t := 48) rfl (by first | exact x_rb b_x3 rfl rfl | exact ⟨by omega, by omega⟩) ⟨by decide, by decide⟩ (fun c367 => ?_) (fun c367 => ?_)
    · skip
      refine x_A k35_48 (fun _ => rfl) ?_
      refine x_getI k35_49 (f := 5) rfl (q := 177) (n := 7) (kd := 7) ⟨by decide, rfl⟩ (by decide) rfl ?_
      rw [e_x1001.symm]
      refine x_if_eq k35_52 (t := 56) rfl (by first | exact x_rb b_x1001 rfl rfl | exact ⟨by omega, by omega⟩) (fun c368 => ?_) (fun c368 => ?_)
      · skip
        refine x_A k35_56 (fun _ => rfl) ?_
        refine x_getR k35_57 (f := 0) rfl (q := 179) (n := 6) (kd := 8) ⟨by decide, rfl⟩ (q2 := 180) (by decide) rfl ?_
        refine x_A k35_60 (fun _ => rfl) ?_
        refine x_getI k35_61 (f := 5) rfl (q := 179) (n := 6) (kd := 8) ⟨by decide, rfl⟩ (by decide) rfl ?_
        rw [e_x1000.symm]
        refine x_A k35_64 (fun _ => rfl) ?_
        refine x_iast k35_65 (q := 180) (n := 8) ⟨by decide, rfl⟩ (by decide) (by first | exact x_rbl b_x1000 rfl rfl | exact ⟨by omega, by omega⟩) ?_
        refine x_nh (fun s369 e_s369 => ?_)
        have hG_s369 : GI s369 := by rw [e_s369]; exact hG.up (show 0 ≤ x2 ∧ x2 ≤ 9 from (by first | exact x_rb b_x2 rfl rfl | exact ⟨by omega, by omega⟩))
        have f_s369 : FL [1219, 1220, 1221, 1222, 1223, 1600, 1728, 1856, 1408, 1472, 1350] s0 s369 := by rw [e_s369]; exact f.up (show 1408 ∈ [1219, 1220, 1221, 1222, 1223, 1600, 1728, 1856, 1408, 1472, 1350] from by decide +kernel)
        have q370 : s369 179 5 = x1000 := by rw [e_s369, x_up_q (by decide)]; exact e_x1000.symm
        have q371 : s369 177 5 = x1001 := by rw [e_s369, x_up_q (by decide)]; exact e_x1001.symm
        have q372 : s369 180 x1000.toNat = x2 := by rw [e_s369]; exact x_up_same
        have J_s369 : J s369 := by rw [e_s369]; exact J.up i_J (show 1408 ∉ LJ from by decide)
        refine x_A k35_66 (fun _ => rfl) ?_
        refine x_getR k35_67 (f := 1) rfl (q := 179) (n := 6) (kd := 8) ⟨by decide, rfl⟩ (q2 := 181) (by decide) rfl ?_
        refine x_A k35_70 (fun _ => rfl) ?_
        refine x_getI k35_71 (f := 5) rfl (q := 179) (n := 6) (kd := 8) ⟨by decide, rfl⟩ (by decide) rfl ?_
        rw [q370]
        refine x_A k35_74 (fun _ => rfl) ?_
        refine x_iast k35_75 (q := 181) (n := 8) ⟨by decide, rfl⟩ (by decide) (by first | exact x_rbl b_x1000 rfl rfl | exact ⟨by omega, by omega⟩) ?_
        refine x_nh (fun s373 e_s373 => ?_)
        have hG_s373 : GI s373 := by rw [e_s373]; exact hG_s369.up (show 0 ≤ x3 ∧ x3 ≤ 9 from (by first | exact x_rb b_x3 rfl rfl | exact ⟨by omega, by omega⟩))
        have f_s373 : FL [1219, 1220, 1221, 1222, 1223, 1600, 1728, 1856, 1408, 1472, 1350] s0 s373 := by rw [e_s373]; exact f_s369.up (show 1472 ∈ [1219, 1220, 1221, 1222, 1223, 1600, 1728, 1856, 1408, 1472, 1350] from by decide +kernel)
        have q374 : s373 179 5 = x1000 := by rw [e_s373, x_up_q (by decide)]; exact q370
        have q375 : s373 177 5 = x1001 := by rw [e_s373, x_up_q (by decide)]; exact q371
        have q376 : s373 180 x1000.toNat = x2 := by rw [e_s373, x_up_q (by first | decide | omega)]; exact q372
        have q377 : s373 181 x1000.toNat = x3 := by rw [e_s373]; exact x_up_same
        refine x_A k35_76 (fun _ => rfl) ?_
        refine x_A k35_77 (fun _ => rfl) ?_
        refine x_getI k35_78 (f := 5) rfl (q := 179) (n := 6) (kd := 8) ⟨by decide, rfl⟩ (by decide) rfl ?_
        rw [q374]
        refine x_A k35_81 (fun _ => rfl) ?_
        refine x_iadd k35_82 ?_
        refine x_top (fun z378 e_z378 => ?_)
        refine x_putI k35_83 (f := 5) rfl (q := 179) (n := 6) (kd := 8) ⟨by decide, rfl⟩ rfl rfl rfl ?_
        refine x_nh (fun s379 e_s379 => ?_)
        have hG_s379 : GI s379 := by rw [e_s379]; exact hG_s373.up (show 0 ≤ z378 ∧ z378 ≤ 8 from (by first | exact x_rbe e_z378 g_z378 rfl rfl | exact x_rb g_z378 rfl rfl | exact ⟨by omega, by omega⟩))
        have f_s379 : FL [1219, 1220, 1221, 1222, 1223, 1600, 1728, 1856, 1408, 1472, 1350] s0 s379 := by rw [e_s379]; exact f_s373.up (show 1350 ∈ [1219, 1220, 1221, 1222, 1223, 1600, 1728, 1856, 1408, 1472, 1350] from by decide +kernel)
        have q380 : s379 177 5 = x1001 := by rw [e_s379, x_up_q (by decide)]; exact q375
        have q381 : s379 179 5 = z378 := by rw [e_s379]; exact x_up_same
        have q382 : s379 180 x1000.toNat = x2 := by rw [e_s379, x_up_q (by first | decide | omega)]; exact q376
        have q383 : s379 181 x1000.toNat = x3 := by rw [e_s379, x_up_q (by first | decide | omega)]; exact q377
        have J_r : J s379 := by rw [e_s379, e_s373, e_s369]; exact J.crule i_J e_x1000 ⟨by omega, by omega⟩ (by omega) (by rw [show x1000 = s0 179 5 by omega]; exact w_1 (by omega))
        exact x_vret k35_86 rfl ⟨hG_s379, f_s379, rfl, J_r⟩
      · skip
        exact x_vret k35_55 rfl ⟨hG, f, rfl, i_J⟩
    · skip
      refine x_A k35_22 (fun _ => rfl) ?_
      refine x_getI k35_23 (f := 5) rfl (q := 177) (n := 7) (kd := 7) ⟨by decide, rfl⟩ (by decide) rfl ?_
      rw [e_x1001.symm]
      refine x_if_ne k35_26 (t := 48) rfl (by first | exact x_rb b_x1001 rfl rfl | exact ⟨by omega, by omega⟩) (fun c384 => ?_) (fun c384 => ?_)
      · skip
        refine x_A k35_48 (fun _ => rfl) ?_
        refine x_getI k35_49 (f := 5) rfl (q := 177) (n := 7) (kd := 7) ⟨by decide, rfl⟩ (by decide) rfl ?_
        rw [e_x1001.symm]
        refine x_if_eq k35_52 (t := 56) rfl (by first | exact x_rb b_x1001 rfl rfl | exact ⟨by omega, by omega⟩) (fun c385 => by exfalso; omega) (fun c385 => ?_)
        exact x_vret k35_55 rfl ⟨hG, f, rfl, i_J⟩
      · skip
        refine x_A k35_29 (fun _ => rfl) ?_
        refine x_getI k35_30 (f := 2) rfl (q := 177) (n := 7) (kd := 7) ⟨by decide, rfl⟩ (by decide) rfl ?_
        refine x_top (fun z386 e_z386 => ?_)
        have g_z386 : (0 : Int) ≤ s 177 2 ∧ s 177 2 ≤ 3 := hG 177 2
        refine x_if_eq k35_33 (t := 48) rfl (by first | exact x_rbe e_z386 g_z386 rfl rfl | exact x_rb g_z386 rfl rfl | exact ⟨by omega, by omega⟩) (fun c387 => ?_) (fun c387 => ?_)
        · skip
          refine x_A k35_48 (fun _ => rfl) ?_
          refine x_getI k35_49 (f := 5) rfl (q := 177) (n := 7) (kd := 7) ⟨by decide, rfl⟩ (by decide) rfl ?_
          rw [e_x1001.symm]
          refine x_if_eq k35_52 (t := 56) rfl (by first | exact x_rb b_x1001 rfl rfl | exact ⟨by omega, by omega⟩) (fun c388 => ?_) (fun c388 => by exfalso; omega)
          refine x_A k35_56 (fun _ => rfl) ?_
          refine x_getR k35_57 (f := 0) rfl (q := 179) (n := 6) (kd := 8) ⟨by decide, rfl⟩ (q2 := 180) (by decide) rfl ?_
          refine x_A k35_60 (fun _ => rfl) ?_
          refine x_getI k35_61 (f := 5) rfl (q := 179) (n := 6) (kd := 8) ⟨by decide, rfl⟩ (by decide) rfl ?_
          rw [e_x1000.symm]
          refine x_A k35_64 (fun _ => rfl) ?_
          refine x_iast k35_65 (q := 180) (n := 8) ⟨by decide, rfl⟩ (by decide) (by first | exact x_rbl b_x1000 rfl rfl | exact ⟨by omega, by omega⟩) ?_
          refine x_nh (fun s389 e_s389 => ?_)
          have hG_s389 : GI s389 := by rw [e_s389]; exact hG.up (show 0 ≤ x2 ∧ x2 ≤ 9 from (by first | exact x_rb b_x2 rfl rfl | exact ⟨by omega, by omega⟩))
          have f_s389 : FL [1219, 1220, 1221, 1222, 1223, 1600, 1728, 1856, 1408, 1472, 1350] s0 s389 := by rw [e_s389]; exact f.up (show 1408 ∈ [1219, 1220, 1221, 1222, 1223, 1600, 1728, 1856, 1408, 1472, 1350] from by decide +kernel)
          have q390 : s389 179 5 = x1000 := by rw [e_s389, x_up_q (by decide)]; exact e_x1000.symm
          have q391 : s389 177 5 = x1001 := by rw [e_s389, x_up_q (by decide)]; exact e_x1001.symm
          have q392 : s389 177 2 = z386 := by rw [e_s389, x_up_q (by decide)]; exact e_z386.symm
          have q393 : s389 180 x1000.toNat = x2 := by rw [e_s389]; exact x_up_same
          have J_s389 : J s389 := by rw [e_s389]; exact J.up i_J (show 1408 ∉ LJ from by decide)
          refine x_A k35_66 (fun _ => rfl) ?_
          refine x_getR k35_67 (f := 1) rfl (q := 179) (n := 6) (kd := 8) ⟨by decide, rfl⟩ (q2 := 181) (by decide) rfl ?_
          refine x_A k35_70 (fun _ => rfl) ?_
          refine x_getI k35_71 (f := 5) rfl (q := 179) (n := 6) (kd := 8) ⟨by decide, rfl⟩ (by decide) rfl ?_
          rw [q390]
          refine x_A k35_74 (fun _ => rfl) ?_
          refine x_iast k35_75 (q := 181) (n := 8) ⟨by decide, rfl⟩ (by decide) (by first | exact x_rbl b_x1000 rfl rfl | exact ⟨by omega, by omega⟩) ?_
          refine x_nh (fun s394 e_s394 => ?_)
          have hG_s394 : GI s394 := by rw [e_s394]; exact hG_s389.up (show 0 ≤ x3 ∧ x3 ≤ 9 from (by first | exact x_rb b_x3 rfl rfl | exact ⟨by omega, by omega⟩))
          have f_s394 : FL [1219, 1220, 1221, 1222, 1223, 1600, 1728, 1856, 1408, 1472, 1350] s0 s394 := by rw [e_s394]; exact f_s389.up (show 1472 ∈ [1219, 1220, 1221, 1222, 1223, 1600, 1728, 1856, 1408, 1472, 1350] from by decide +kernel)
          have q395 : s394 179 5 = x1000 := by rw [e_s394, x_up_q (by decide)]; exact q390
          have q396 : s394 177 5 = x1001 := by rw [e_s394, x_up_q (by decide)]; exact q391
          have q397 : s394 177 2 = z386 := by rw [e_s394, x_up_q (by decide)]; exact q392
          have q398 : s394 180 x1000.toNat = x2 := by rw [e_s394, x_up_q (by first | decide | omega)]; exact q393
          have q399 : s394 181 x1000.toNat = x3 := by rw [e_s394]; exact x_up_same
          refine x_A k35_76 (fun _ => rfl) ?_
          refine x_A k35_77 (fun _ => rfl) ?_
          refine x_getI k35_78 (f := 5) rfl (q := 179) (n := 6) (kd := 8) ⟨by decide, rfl⟩ (by decide) rfl ?_
          rw [q395]
          refine x_A k35_81 (fun _ => rfl) ?_
          refine x_iadd k35_82 ?_
          refine x_top (fun z400 e_z400 => ?_)
          refine x_putI k35_83 (f := 5) rfl (q := 179) (n := 6) (kd := 8) ⟨by decide, rfl⟩ rfl rfl rfl ?_
          refine x_nh (fun s401 e_s401 => ?_)
          have hG_s401 : GI s401 := by rw [e_s401]; exact hG_s394.up (show 0 ≤ z400 ∧ z400 ≤ 8 from (by first | exact x_rbe e_z400 g_z400 rfl rfl | exact x_rb g_z400 rfl rfl | exact ⟨by omega, by omega⟩))
          have f_s401 : FL [1219, 1220, 1221, 1222, 1223, 1600, 1728, 1856, 1408, 1472, 1350] s0 s401 := by rw [e_s401]; exact f_s394.up (show 1350 ∈ [1219, 1220, 1221, 1222, 1223, 1600, 1728, 1856, 1408, 1472, 1350] from by decide +kernel)
          have q402 : s401 177 5 = x1001 := by rw [e_s401, x_up_q (by decide)]; exact q396
          have q403 : s401 177 2 = z386 := by rw [e_s401, x_up_q (by decide)]; exact q397
          have q404 : s401 179 5 = z400 := by rw [e_s401]; exact x_up_same
          have q405 : s401 180 x1000.toNat = x2 := by rw [e_s401, x_up_q (by first | decide | omega)]; exact q398
          have q406 : s401 181 x1000.toNat = x3 := by rw [e_s401, x_up_q (by first | decide | omega)]; exact q399
          have J_r : J s401 := by rw [e_s401, e_s394, e_s389]; exact J.crule i_J e_x1000 ⟨by omega, by omega⟩ (by omega) (by rw [show x1000 = s0 179 5 by omega]; exact w_1 (by omega))
          exact x_vret k35_86 rfl ⟨hG_s401, f_s401, rfl, J_r⟩
        · skip
          refine x_A k35_36 (fun _ => rfl) ?_
          refine x_A k35_37 (fun _ => rfl) ?_
          refine x_A k35_38 (fun _ => rfl) ?_
          have Nc_i : NRr s (s 179 5) x3 := by rw [show s 179 5 = s0 179 5 by omega]; exact w_1 (by omega)
          refine x_callV k35_39 (y := 37) (n := 2) (w0 := 0) (w1 := 2) (as := [.ref 177, vi x3]) (rest := []) (by decide +kernel) (q := 179) (nq := 6) (kq := 8) ⟨by decide, rfl⟩ rfl rfl rfl rfl (xe_mono (C_X4_readClause_179_177 s hG x3 (by first | exact x_rb b_x3 rfl rfl | exact ⟨by omega, by omega⟩) ⟨by omega, by omega⟩ i_J Nc_i) ?_)
          rintro s408 v ⟨hG_s408, t_s408, rfl, xp_z407, J_s408, Nc_s408⟩
          have f_s408 : FL [1219, 1220, 1221, 1222, 1223, 1600, 1728, 1856, 1408, 1472, 1350] s0 s408 := f.tr t_s408 (by decide +kernel)
          have q409 : s408 179 5 = x1000 := (t_s408 179 5 (show 1350 ∉ [1219, 1220, 1221, 1222, 1223, 1600, 1728, 1856] from by decide +kernel)).trans e_x1000.symm
          obtain ⟨z410, e_z410⟩ : ∃ z, z = s408 177 5 := ⟨_, rfl⟩
          have g_z410 : (0 : Int) ≤ s408 177 5 ∧ s408 177 5 ≤ 5 := hG_s408 177 5
          show xe none 35 42 [(0, .ref 179), (1, .ref 177), (2, vi x2), (3, vi x3)] [] s408 0 0 _
          refine x_iinc k35_42 (ls' := [(3, vi (x3 + 1)), (0, .ref 179), (1, .ref 177), (2, vi x2)]) rfl (by decide) rfl ?_
          refine x_goto k35_45 (t := 16) rfl ?_
          refine x_ls (l := [(0, .ref 179), (1, .ref 177), (2, vi x2), (3, vi (x3 + 1))]) (show ([0, 1, 2, 3] : List Nat).Nodup from by decide +kernel) ⟨rfl, rfl, rfl, rfl, trivial⟩ ?_
          exact ih s408 x2 (x3 + 1) x1000 z410 hG_s408 f_s408 (by first | exact x_rb b_x2 rfl rfl | exact ⟨by omega, by omega⟩) ⟨by omega, by omega⟩ (by first | exact x_rb b_x1000 rfl rfl | exact ⟨by omega, by omega⟩) (by first | exact x_rbe e_z410 g_z410 rfl rfl | exact x_rb g_z410 rfl rfl | exact ⟨by omega, by omega⟩) (by omega) (fun hz => by rw [show s0 179 5 = s 179 5 by omega]; exact (xp_z407 (by omega)).2.2) (q409).symm (e_z410.symm).symm J_s408  (by omega)
theorem C_X4_read_179_177 (s0 : xS) (hG0 : GI s0) (a : Int) (b_a : 0 ≤ a ∧ a ≤ 9) (p_179_5 : 0 ≤ s0 179 5 ∧ s0 179 5 ≤ 8) (i0_J : J s0) : xe none 35 0 (lv_args 0 [.ref 179, .ref 177, vi a]) [] s0 0 0 (fun s' v => GI s' ∧ FL [1219, 1220, 1221, 1222, 1223, 1600, 1728, 1856, 1408, 1472, 1350] s0 s' ∧ v = none ∧ J s') := by
  have f0 : FL [1219, 1220, 1221, 1222, 1223, 1600, 1728, 1856, 1408, 1472, 1350] s0 s0 := FL.rf
  show xe none 35 0 [(0, .ref 179), (1, .ref 177), (2, vi a)] [] s0 0 0 _
  obtain ⟨z411, e_z411⟩ : ∃ z, z = s0 179 5 := ⟨_, rfl⟩
  have g_z411 : (0 : Int) ≤ s0 179 5 ∧ s0 179 5 ≤ 8 := hG0 179 5
  refine x_A k35_0 (fun _ => rfl) ?_
  refine x_callV k35_1 (y := 48) (n := 0) (w0 := 0) (w1 := 0) (as := []) (rest := []) (by decide +kernel) (q := 177) (nq := 7) (kq := 7) ⟨by decide, rfl⟩ rfl rfl rfl rfl (xe_mono (C_X6_startReading_177 s0 hG0) ?_)
  rintro s413 v ⟨hG_s413, t_s413, rfl⟩
  have f_s413 : FL [1219, 1220, 1221, 1222, 1223, 1600, 1728, 1856, 1408, 1472, 1350] s0 s413 := f0.tr t_s413 (by decide +kernel)
  have q414 : s413 179 5 = z411 := (t_s413 179 5 (show 1350 ∉ [1219, 1220, 1221, 1222, 1223] from by decide +kernel)).trans e_z411.symm
  have J_s413 : J s413 := J.fl i0_J t_s413 (by decide +kernel)
  show xe none 35 4 [(0, .ref 179), (1, .ref 177), (2, vi a)] [] s413 0 0 _
  refine x_A k35_4 (fun _ => rfl) ?_
  refine x_getI k35_5 (f := 5) rfl (q := 179) (n := 6) (kd := 8) ⟨by decide, rfl⟩ (by decide) rfl ?_
  rw [q414]
  refine x_bipush k35_8 (by decide +kernel) ?_
  refine x_ic_lt k35_10 (t := 14) rfl (by first | exact x_rbe e_z411 g_z411 rfl rfl | exact x_rb g_z411 rfl rfl | exact ⟨by omega, by omega⟩) ⟨by decide, by decide⟩ (fun c415 => ?_) (fun c415 => ?_)
  · skip
    refine x_A k35_14 (fun _ => rfl) ?_
    refine x_istore_n k35_15 (ls' := [(3, vi 0), (0, .ref 179), (1, .ref 177), (2, vi a)]) (by decide) rfl ?_
    obtain ⟨z416, e_z416⟩ : ∃ z, z = s413 177 5 := ⟨_, rfl⟩
    have g_z416 : (0 : Int) ≤ s413 177 5 ∧ s413 177 5 ≤ 5 := hG_s413 177 5
    refine x_ls (l := [(0, .ref 179), (1, .ref 177), (2, vi a), (3, vi 0)]) (show ([0, 1, 2, 3] : List Nat).Nodup from by decide +kernel) ⟨rfl, rfl, rfl, rfl, trivial⟩ ?_
    exact L_C_X4_read_179_177_16 s0   (((9 - 0) + 1 : Int)).toNat s413 a 0 z411 z416 hG_s413 f_s413 (by first | exact x_rb b_a rfl rfl | exact ⟨by omega, by omega⟩) ⟨by decide, by decide⟩ (by first | exact x_rbe e_z411 g_z411 rfl rfl | exact x_rb g_z411 rfl rfl | exact ⟨by omega, by omega⟩) (by first | exact x_rbe e_z416 g_z416 rfl rfl | exact x_rb g_z416 rfl rfl | exact ⟨by omega, by omega⟩) (by omega) (fun _ => ⟨by omega, by omega, fun j j0 j1 => by omega⟩) (q414).symm (e_z416.symm).symm J_s413  (by omega)
  · skip
    exact x_vret k35_13 rfl ⟨hG_s413, f_s413, rfl, J_s413⟩
theorem C_X10_rule_0 (s0 : xS) (hG0 : GI s0) (a : Int) (b_a : (-2147483648) ≤ a ∧ a ≤ 2147483647) (i0_J : J s0) : xe none 105 0 (lv_args 0 [.ref 0, vi a]) [] s0 0 0 (fun s' v => GI s' ∧ FL [1219, 1220, 1221, 1222, 1223, 1600, 1728, 1856, 1408, 1472, 1350, 3276, 3277, 12, 1218] s0 s' ∧ ∃ z, v = some (vi z) ∧ ((-2147483648) ≤ z ∧ z ≤ 2147483647) ∧ J s') := by
  have f0 : FL [1219, 1220, 1221, 1222, 1223, 1600, 1728, 1856, 1408, 1472, 1350, 3276, 3277, 12, 1218] s0 s0 := FL.rf
  show xe none 105 0 [(0, .ref 0), (1, vi a)] [] s0 0 0 _
  refine x_A k105_0 (fun _ => rfl) ?_
  refine x_A k105_1 (fun _ => rfl) ?_
  refine x_bipush k105_2 (by decide +kernel) ?_
  refine x_callS k105_4 (y := 121) (n := 3) (w0 := 0) (w1 := 3) (as := [vi a, vi 0, vi 9]) (rest := []) (by decide +kernel) rfl rfl rfl rfl (xe_mono (C_X10_isWithin s0 hG0 a (by first | exact x_rb b_a rfl rfl | exact ⟨by omega, by omega⟩) 0 ⟨by decide, by decide⟩ 9 ⟨by decide, by decide⟩) ?_)
  rintro s2 v ⟨h_s2, z1, rfl, hz_z1⟩
  rw [h_s2]
  rcases hz_z1 with ⟨c_z1, e_z1⟩ | ⟨c_z1, e_z1⟩
  · rw [e_z1]
    show xe none 105 7 [(0, .ref 0), (1, vi a)] [vi 1] s0 0 0 _
    refine x_if_ne k105_7 (t := 14) rfl ⟨by decide, by decide⟩ (fun c3 => ?_) (fun c3 => by exfalso; omega)
    refine x_A k105_14 (fun _ => rfl) ?_
    refine x_getR k105_15 (f := 4) rfl (q := 0) (n := 12) (kd := 3) ⟨by decide, rfl⟩ (q2 := 179) (by decide) rfl ?_
    refine x_getI k105_18 (f := 5) rfl (q := 179) (n := 6) (kd := 8) ⟨by decide, rfl⟩ (by decide) rfl ?_
    refine x_top (fun z4 e_z4 => ?_)
    have g_z4 : (0 : Int) ≤ s0 179 5 ∧ s0 179 5 ≤ 8 := hG0 179 5
    refine x_bipush k105_21 (by decide +kernel) ?_
    refine x_ic_lt k105_23 (t := 30) rfl (by first | exact x_rbe e_z4 g_z4 rfl rfl | exact x_rb g_z4 rfl rfl | exact ⟨by omega, by omega⟩) ⟨by decide, by decide⟩ (fun c5 => ?_) (fun c5 => ?_)
    · skip
      refine x_A k105_30 (fun _ => rfl) ?_
      refine x_getR k105_31 (f := 9) rfl (q := 0) (n := 12) (kd := 3) ⟨by decide, rfl⟩ (q2 := 243) (by decide) rfl ?_
      refine x_callV k105_34 (y := 73) (n := 0) (w0 := 0) (w1 := 0) (as := []) (rest := []) (by decide +kernel) (q := 243) (nq := 13) (kq := 13) ⟨by decide, rfl⟩ rfl rfl rfl rfl (xe_mono (C_X8_forget_243 s0 hG0) ?_)
      rintro s7 v ⟨hG_s7, t_s7, rfl⟩
      have f_s7 : FL [1219, 1220, 1221, 1222, 1223, 1600, 1728, 1856, 1408, 1472, 1350, 3276, 3277, 12, 1218] s0 s7 := f0.tr t_s7 (by decide +kernel)
      have q8 : s7 179 5 = z4 := (t_s7 179 5 (show 1350 ∉ [3276, 3277] from by decide +kernel)).trans e_z4.symm
      have J_s7 : J s7 := J.fl i0_J t_s7 (by decide +kernel)
      show xe none 105 37 [(0, .ref 0), (1, vi a)] [] s7 0 0 _
      refine x_A k105_37 (fun _ => rfl) ?_
      refine x_getR k105_38 (f := 4) rfl (q := 0) (n := 12) (kd := 3) ⟨by decide, rfl⟩ (q2 := 179) (by decide) rfl ?_
      refine x_getI k105_41 (f := 5) rfl (q := 179) (n := 6) (kd := 8) ⟨by decide, rfl⟩ (by decide) rfl ?_
      rw [q8]
      refine x_istore_n k105_44 (ls' := [(2, vi z4), (0, .ref 0), (1, vi a)]) (by decide) rfl ?_
      refine x_A k105_45 (fun _ => rfl) ?_
      refine x_getR k105_46 (f := 4) rfl (q := 0) (n := 12) (kd := 3) ⟨by decide, rfl⟩ (q2 := 179) (by decide) rfl ?_
      refine x_A k105_49 (fun _ => rfl) ?_
      refine x_getR k105_50 (f := 3) rfl (q := 0) (n := 12) (kd := 3) ⟨by decide, rfl⟩ (q2 := 177) (by decide) rfl ?_
      refine x_A k105_53 (fun _ => rfl) ?_
      refine x_callV k105_54 (y := 35) (n := 2) (w0 := 0) (w1 := 2) (as := [.ref 177, vi a]) (rest := []) (by decide +kernel) (q := 179) (nq := 6) (kq := 8) ⟨by decide, rfl⟩ rfl rfl rfl rfl (xe_mono (C_X4_read_179_177 s7 hG_s7 a (by first | exact x_rb b_a rfl rfl | exact ⟨by omega, by omega⟩) ⟨by omega, by omega⟩ J_s7) ?_)
      rintro s10 v ⟨hG_s10, t_s10, rfl, J_s10⟩
      have f_s10 : FL [1219, 1220, 1221, 1222, 1223, 1600, 1728, 1856, 1408, 1472, 1350, 3276, 3277, 12, 1218] s0 s10 := f_s7.tr t_s10 (by decide +kernel)
      show xe none 105 57 [(2, vi z4), (0, .ref 0), (1, vi a)] [] s10 0 0 _
      refine x_A k105_57 (fun _ => rfl) ?_
      refine x_A k105_58 (fun _ => rfl) ?_
      refine x_callV k105_59 (y := 128) (n := 1) (w0 := 0) (w1 := 1) (as := [vi z4]) (rest := []) (by decide +kernel) (q := 0) (nq := 12) (kq := 3) ⟨by decide, rfl⟩ rfl rfl rfl rfl (xe_mono (C_X10_afterReading_0 s10 hG_s10 z4 (by first | exact x_rbe e_z4 g_z4 rfl rfl | exact x_rb g_z4 rfl rfl | exact ⟨by omega, by omega⟩)) ?_)
      rintro s12 v ⟨hG_s12, t_s12, z11, rfl, g_z11⟩
      have f_s12 : FL [1219, 1220, 1221, 1222, 1223, 1600, 1728, 1856, 1408, 1472, 1350, 3276, 3277, 12, 1218] s0 s12 := f_s10.tr t_s12 (by decide +kernel)
      have J_s12 : J s12 := J.fl J_s10 t_s12 (by decide +kernel)
      show xe none 105 62 [(2, vi z4), (0, .ref 0), (1, vi a)] [vi z11] s12 0 0 _
      exact x_iret k105_62 rfl ⟨hG_s12, f_s12, z11, rfl, (by first | exact x_rbe e_z11 g_z11 rfl rfl | exact x_rb g_z11 rfl rfl | exact ⟨by omega, by omega⟩), J_s12⟩
    · skip
      refine x_sipush k105_26 (by decide +kernel) ?_
      exact x_iret k105_29 rfl ⟨hG0, f0, (-1004), rfl, ⟨by decide, by decide⟩, i0_J⟩
  · rw [e_z1]
    show xe none 105 7 [(0, .ref 0), (1, vi a)] [vi 0] s0 0 0 _
    refine x_if_ne k105_7 (t := 14) rfl ⟨by decide, by decide⟩ (fun c13 => by exfalso; omega) (fun c13 => ?_)
    refine x_sipush k105_10 (by decide +kernel) ?_
    exact x_iret k105_13 rfl ⟨hG0, f0, (-1002), rfl, ⟨by decide, by decide⟩, i0_J⟩
theorem C_X11_readSense_256 (s0 : xS) (hG0 : GI s0) (a : Int) (b_a : 0 ≤ a ∧ a ≤ 71) (i0_Ra : JRc s0 a) : xe none 184 0 (lv_args 0 [.ref 256, vi a]) [] s0 0 0 (fun s' v => GI s' ∧ FL [4133, 4136, 4132, 4134, 4135, 5184, 5248] s0 s' ∧ ∃ z, v = some (vi z) ∧ (0 ≤ z ∧ z ≤ 5) ∧ (z = 0 → 0 ≤ s' 273 a.toNat ∧ s' 273 a.toNat ≤ 5) ∧ JRc s' a) := by
  have f0 : FL [4133, 4136, 4132, 4134, 4135, 5184, 5248] s0 s0 := FL.rf
  show xe none 184 0 [(0, .ref 256), (1, vi a)] [] s0 0 0 _
  refine x_A k184_0 (fun _ => rfl) ?_
  refine x_A k184_1 (fun _ => rfl) ?_
  refine x_A k184_2 (fun _ => rfl) ?_
  refine x_A k184_3 (fun _ => rfl) ?_
  refine x_A k184_4 (fun _ => rfl) ?_
  refine x_callV k184_5 (y := 180) (n := 4) (w0 := 0) (w1 := 4) (as := [vi 0, vi 5, vi 2, vi 2]) (rest := []) (by decide +kernel) (q := 256) (nq := 62) (kq := 15) ⟨by decide, rfl⟩ rfl rfl rfl rfl (xe_mono (C_X11_readNumber_256 s0 hG0 0 ⟨by decide, by decide⟩ 5 ⟨by decide, by decide⟩ 2 ⟨by decide, by decide⟩ 2 ⟨by decide, by decide⟩) ?_)
  rintro s2 v ⟨hG_s2, t_s2, z1, rfl, g_z1, xp_z1⟩
  have f_s2 : FL [4133, 4136, 4132, 4134, 4135, 5184, 5248] s0 s2 := f0.tr t_s2 (by decide +kernel)
  have Ra_s2 : JRc s2 a := JRc.fl i0_Ra t_s2 (by decide +kernel)
  obtain ⟨z3, e_z3⟩ : ∃ z, z = s2 256 36 := ⟨_, rfl⟩
  have g_z3 : (0 : Int) ≤ s2 256 36 ∧ s2 256 36 ≤ 160 := hG_s2 256 36
  obtain ⟨z4, e_z4⟩ : ∃ z, z = s2 256 34 := ⟨_, rfl⟩
  have g_z4 : (0 : Int) ≤ s2 256 34 ∧ s2 256 34 ≤ 160 := hG_s2 256 34
  obtain ⟨z5, e_z5⟩ : ∃ z, z = s2 256 39 := ⟨_, rfl⟩
  have g_z5 : (0 : Int) ≤ s2 256 39 ∧ s2 256 39 ≤ 1100000 := hG_s2 256 39
  show xe none 184 8 [(0, .ref 256), (1, vi a)] [vi z1] s2 0 0 _
  refine x_istore_n k184_8 (ls' := [(2, vi z1), (0, .ref 256), (1, vi a)]) (by decide) rfl ?_
  refine x_A k184_9 (fun _ => rfl) ?_
  refine x_if_le k184_10 (t := 15) rfl (by first | exact x_rbe e_z1 g_z1 rfl rfl | exact x_rb g_z1 rfl rfl | exact ⟨by omega, by omega⟩) (fun c6 => ?_) (fun c6 => ?_)
  · skip
    refine x_A k184_15 (fun _ => rfl) ?_
    refine x_getR k184_16 (f := 22) rfl (q := 256) (n := 62) (kd := 15) ⟨by decide, rfl⟩ (q2 := 273) (by decide) rfl ?_
    refine x_A k184_19 (fun _ => rfl) ?_
    refine x_A k184_20 (fun _ => rfl) ?_
    refine x_getI k184_21 (f := 39) rfl (q := 256) (n := 62) (kd := 15) ⟨by decide, rfl⟩ (by decide) rfl ?_
    rw [e_z5.symm]
    refine x_iast k184_24 (q := 273) (n := 72) ⟨by decide, rfl⟩ (by decide) (by first | exact x_rbl b_a rfl rfl | exact ⟨by omega, by omega⟩) ?_
    refine x_nh (fun s7 e_s7 => ?_)
    have hG_s7 : GI s7 := by rw [e_s7]; exact hG_s2.up (show (-2147483648) ≤ z5 ∧ z5 ≤ 2147483647 from (by first | exact x_rbe e_z5 g_z5 rfl rfl | exact x_rb g_z5 rfl rfl | exact ⟨by omega, by omega⟩))
    have f_s7 : FL [4133, 4136, 4132, 4134, 4135, 5184, 5248] s0 s7 := by rw [e_s7]; exact f_s2.up (show 5184 ∈ [4133, 4136, 4132, 4134, 4135, 5184, 5248] from by decide +kernel)
    have q8 : s7 256 36 = z3 := by rw [e_s7, x_up_q (by decide)]; exact e_z3.symm
    have q9 : s7 256 34 = z4 := by rw [e_s7, x_up_q (by decide)]; exact e_z4.symm
    have q10 : s7 256 39 = z5 := by rw [e_s7, x_up_q (by decide)]; exact e_z5.symm
    have q11 : s7 273 a.toNat = z5 := by rw [e_s7]; exact x_up_same
    have Ra_s7 : JRc s7 a := by rw [e_s7]; exact JRc.st Ra_s2 (by omega)
    refine x_A k184_25 (fun _ => rfl) ?_
    refine x_callV k184_26 (y := 178) (n := 0) (w0 := 0) (w1 := 0) (as := []) (rest := []) (by decide +kernel) (q := 256) (nq := 62) (kq := 15) ⟨by decide, rfl⟩ rfl rfl rfl rfl (xe_mono (C_X11_readWord_256 s7 hG_s7) ?_)
    rintro s13 v ⟨hG_s13, t_s13, rfl, xp_z12⟩
    have f_s13 : FL [4133, 4136, 4132, 4134, 4135, 5184, 5248] s0 s13 := f_s7.tr t_s13 (by decide +kernel)
    have q14 : s13 256 34 = z4 := (t_s13 256 34 (show 4131 ∉ [4133, 4134, 4135] from by decide +kernel)).trans q9
    have q15 : s13 256 39 = z5 := (t_s13 256 39 (show 4136 ∉ [4133, 4134, 4135] from by decide +kernel)).trans q10
    have q16 : s13 273 a.toNat = z5 := (t_s13 273 a.toNat (show 5184 ∉ [4133, 4134, 4135] from by decide +kernel)).trans q11
    have Ra_s13 : JRc s13 a := JRc.fl Ra_s7 t_s13 (by decide +kernel)
    obtain ⟨z17, e_z17⟩ : ∃ z, z = s13 256 36 := ⟨_, rfl⟩
    have g_z17 : (0 : Int) ≤ s13 256 36 ∧ s13 256 36 ≤ 160 := hG_s13 256 36
    obtain ⟨z18, e_z18⟩ : ∃ z, z = s13 256 38 := ⟨_, rfl⟩
    have g_z18 : (0 : Int) ≤ s13 256 38 ∧ s13 256 38 ≤ 160 := hG_s13 256 38
    show xe none 184 29 [(2, vi z1), (0, .ref 256), (1, vi a)] [] s13 0 0 _
    refine x_A k184_29 (fun _ => rfl) ?_
    refine x_callV k184_30 (y := 182) (n := 0) (w0 := 0) (w1 := 0) (as := []) (rest := []) (by decide +kernel) (q := 256) (nq := 62) (kq := 15) ⟨by decide, rfl⟩ rfl rfl rfl rfl (xe_mono (C_X11_senseOf_256 s13 hG_s13) ?_)
    rintro s20 v ⟨-, t_s20, z19, rfl, g_z19⟩
    rw [t_s20.nil]
    show xe none 184 33 [(2, vi z1), (0, .ref 256), (1, vi a)] [vi z19] s13 0 0 _
    refine x_if_ge k184_33 (t := 46) rfl (by first | exact x_rbe e_z19 g_z19 rfl rfl | exact x_rb g_z19 rfl rfl | exact ⟨by omega, by omega⟩) (fun c21 => ?_) (fun c21 => ?_)
    · skip
      refine x_A k184_46 (fun _ => rfl) ?_
      refine x_getR k184_47 (f := 23) rfl (q := 256) (n := 62) (kd := 15) ⟨by decide, rfl⟩ (q2 := 274) (by decide) rfl ?_
      refine x_A k184_50 (fun _ => rfl) ?_
      refine x_A k184_51 (fun _ => rfl) ?_
      refine x_callV k184_52 (y := 182) (n := 0) (w0 := 2) (w1 := 0) (as := []) (rest := [vi a, .ref 274]) (by decide +kernel) (q := 256) (nq := 62) (kq := 15) ⟨by decide, rfl⟩ rfl rfl rfl rfl (xe_mono (C_X11_senseOf_256 s13 hG_s13) ?_)
      rintro s23 v ⟨-, t_s23, z22, rfl, g_z22⟩
      rw [t_s23.nil]
      show xe none 184 55 [(2, vi z1), (0, .ref 256), (1, vi a)] [vi z22, vi a, .ref 274] s13 0 0 _
      refine x_iast k184_55 (q := 274) (n := 72) ⟨by decide, rfl⟩ (by decide) (by first | exact x_rbl b_a rfl rfl | exact ⟨by omega, by omega⟩) ?_
      refine x_nh (fun s24 e_s24 => ?_)
      have hG_s24 : GI s24 := by rw [e_s24]; exact hG_s13.up (show (-2147483648) ≤ z22 ∧ z22 ≤ 2147483647 from (by first | exact x_rbe e_z22 g_z22 rfl rfl | exact x_rb g_z22 rfl rfl | exact ⟨by omega, by omega⟩))
      have f_s24 : FL [4133, 4136, 4132, 4134, 4135, 5184, 5248] s0 s24 := by rw [e_s24]; exact f_s13.up (show 5248 ∈ [4133, 4136, 4132, 4134, 4135, 5184, 5248] from by decide +kernel)
      have q25 : s24 256 34 = z4 := by rw [e_s24, x_up_q (by decide)]; exact q14
      have q26 : s24 256 39 = z5 := by rw [e_s24, x_up_q (by decide)]; exact q15
      have q27 : s24 256 36 = z17 := by rw [e_s24, x_up_q (by decide)]; exact e_z17.symm
      have q28 : s24 256 38 = z18 := by rw [e_s24, x_up_q (by decide)]; exact e_z18.symm
      have q29 : s24 273 a.toNat = z5 := by rw [e_s24, x_up_q (by first | decide | omega)]; exact q16
      have q30 : s24 274 a.toNat = z22 := by rw [e_s24]; exact x_up_same
      have Ra_s24 : JRc s24 a := by rw [e_s24]; exact JRc.up Ra_s13 (show 5248 ∉ [5120, 5184] from by decide +kernel)
      refine x_A k184_56 (fun _ => rfl) ?_
      refine x_A k184_57 (fun _ => rfl) ?_
      refine x_getI k184_58 (f := 38) rfl (q := 256) (n := 62) (kd := 15) ⟨by decide, rfl⟩ (by decide) rfl ?_
      rw [q28]
      refine x_putI k184_61 (f := 36) rfl (q := 256) (n := 62) (kd := 15) ⟨by decide, rfl⟩ rfl rfl rfl ?_
      refine x_nh (fun s31 e_s31 => ?_)
      have hG_s31 : GI s31 := by rw [e_s31]; exact hG_s24.up (show 0 ≤ z18 ∧ z18 ≤ 160 from (by first | exact x_rbe e_z18 g_z18 rfl rfl | exact x_rb g_z18 rfl rfl | exact ⟨by omega, by omega⟩))
      have f_s31 : FL [4133, 4136, 4132, 4134, 4135, 5184, 5248] s0 s31 := by rw [e_s31]; exact f_s24.up (show 4133 ∈ [4133, 4136, 4132, 4134, 4135, 5184, 5248] from by decide +kernel)
      have q32 : s31 256 34 = z4 := by rw [e_s31, x_up_i (by decide)]; exact q25
      have q33 : s31 256 39 = z5 := by rw [e_s31, x_up_i (by decide)]; exact q26
      have q34 : s31 256 38 = z18 := by rw [e_s31, x_up_i (by decide)]; exact q28
      have q35 : s31 256 36 = z18 := by rw [e_s31]; exact x_up_same
      have q36 : s31 273 a.toNat = z5 := by rw [e_s31, x_up_q (by first | decide | omega)]; exact q29
      have q37 : s31 274 a.toNat = z22 := by rw [e_s31, x_up_q (by first | decide | omega)]; exact q30
      have Ra_s31 : JRc s31 a := by rw [e_s31]; exact JRc.up Ra_s24 (show 4133 ∉ [5120, 5184] from by decide +kernel)
      refine x_A k184_64 (fun _ => rfl) ?_
      exact x_iret k184_65 rfl ⟨hG_s31, f_s31, 0, rfl, ⟨by decide, by decide⟩, by omega, Ra_s31⟩
    · skip
      refine x_A k184_36 (fun _ => rfl) ?_
      refine x_A k184_37 (fun _ => rfl) ?_
      refine x_A k184_38 (fun _ => rfl) ?_
      refine x_getI k184_39 (f := 36) rfl (q := 256) (n := 62) (kd := 15) ⟨by decide, rfl⟩ (by decide) rfl ?_
      rw [e_z17.symm]
      refine x_callV k184_42 (y := 177) (n := 2) (w0 := 0) (w1 := 2) (as := [vi 1, vi z17]) (rest := []) (by decide +kernel) (q := 256) (nq := 62) (kq := 15) ⟨by decide, rfl⟩ rfl rfl rfl rfl (xe_mono (C_X11_fails_256 s13 hG_s13 1 ⟨by decide, by decide⟩ z17 (by first | exact x_rbe e_z17 g_z17 rfl rfl | exact x_rb g_z17 rfl rfl | exact ⟨by omega, by omega⟩)) ?_)
      rintro s39 v ⟨hG_s39, t_s39, z38, rfl, g_z38, xp_z38⟩
      have f_s39 : FL [4133, 4136, 4132, 4134, 4135, 5184, 5248] s0 s39 := f_s13.tr t_s39 (by decide +kernel)
      have q40 : s39 256 34 = z4 := (t_s39 256 34 (show 4131 ∉ [4132] from by decide +kernel)).trans q14
      have q41 : s39 256 39 = z5 := (t_s39 256 39 (show 4136 ∉ [4132] from by decide +kernel)).trans q15
      have q42 : s39 256 36 = z17 := (t_s39 256 36 (show 4133 ∉ [4132] from by decide +kernel)).trans e_z17.symm
      have q43 : s39 256 38 = z18 := (t_s39 256 38 (show 4135 ∉ [4132] from by decide +kernel)).trans e_z18.symm
      have q44 : s39 273 a.toNat = z5 := (t_s39 273 a.toNat (show 5184 ∉ [4132] from by decide +kernel)).trans q16
      have Ra_s39 : JRc s39 a := JRc.fl Ra_s13 t_s39 (by decide +kernel)
      show xe none 184 45 [(2, vi z1), (0, .ref 256), (1, vi a)] [vi z38] s39 0 0 _
      exact x_iret k184_45 rfl ⟨hG_s39, f_s39, z38, rfl, (by first | exact x_rbe e_z38 g_z38 rfl rfl | exact x_rb g_z38 rfl rfl | exact ⟨by omega, by omega⟩), by omega, Ra_s39⟩
  · skip
    refine x_A k184_13 (fun _ => rfl) ?_
    exact x_iret k184_14 rfl ⟨hG_s2, f_s2, z1, rfl, (by first | exact x_rbe e_z1 g_z1 rfl rfl | exact x_rb g_z1 rfl rfl | exact ⟨by omega, by omega⟩), by omega, Ra_s2⟩
theorem C_X11_readPair_256 (s0 : xS) (hG0 : GI s0) (a : Int) (b_a : 0 ≤ a ∧ a ≤ 71) (b : Int) (b_b : 1 ≤ b ∧ b ≤ 3) (i0_Ra : JRc s0 a) : xe none 185 0 (lv_args 0 [.ref 256, vi a, vi b]) [] s0 0 0 (fun s' v => GI s' ∧ FL [4133, 4136, 4132, 4134, 4135, 5184, 5248] s0 s' ∧ ∃ z, v = some (vi z) ∧ (0 ≤ z ∧ z ≤ 5) ∧ JRc s' a) := by
  have f0 : FL [4133, 4136, 4132, 4134, 4135, 5184, 5248] s0 s0 := FL.rf
  show xe none 185 0 [(0, .ref 256), (1, vi a), (2, vi b)] [] s0 0 0 _
  refine x_A k185_0 (fun _ => rfl) ?_
  refine x_A k185_1 (fun _ => rfl) ?_
  refine x_A k185_2 (fun _ => rfl) ?_
  refine x_A k185_3 (fun _ => rfl) ?_
  refine x_ic_ne k185_4 (t := 12) rfl (by first | exact x_rb b_b rfl rfl | exact ⟨by omega, by omega⟩) ⟨by decide, by decide⟩ (fun c1 => ?_) (fun c1 => ?_)
  · skip
    refine x_A k185_12 (fun _ => rfl) ?_
    refine x_A k185_13 (fun _ => rfl) ?_
    refine x_A k185_14 (fun _ => rfl) ?_
    refine x_callV k185_15 (y := 180) (n := 4) (w0 := 0) (w1 := 4) (as := [vi 0, vi 5, vi 2, vi 2]) (rest := []) (by decide +kernel) (q := 256) (nq := 62) (kq := 15) ⟨by decide, rfl⟩ rfl rfl rfl rfl (xe_mono (C_X11_readNumber_256 s0 hG0 0 ⟨by decide, by decide⟩ 5 ⟨by decide, by decide⟩ 2 ⟨by decide, by decide⟩ 2 ⟨by decide, by decide⟩) ?_)
    rintro s3 v ⟨hG_s3, t_s3, z2, rfl, g_z2, xp_z2⟩
    have f_s3 : FL [4133, 4136, 4132, 4134, 4135, 5184, 5248] s0 s3 := f0.tr t_s3 (by decide +kernel)
    have Ra_s3 : JRc s3 a := JRc.fl i0_Ra t_s3 (by decide +kernel)
    obtain ⟨z4, e_z4⟩ : ∃ z, z = s3 256 36 := ⟨_, rfl⟩
    have g_z4 : (0 : Int) ≤ s3 256 36 ∧ s3 256 36 ≤ 160 := hG_s3 256 36
    obtain ⟨z5, e_z5⟩ : ∃ z, z = s3 256 34 := ⟨_, rfl⟩
    have g_z5 : (0 : Int) ≤ s3 256 34 ∧ s3 256 34 ≤ 160 := hG_s3 256 34
    obtain ⟨z6, e_z6⟩ : ∃ z, z = s3 256 39 := ⟨_, rfl⟩
    have g_z6 : (0 : Int) ≤ s3 256 39 ∧ s3 256 39 ≤ 1100000 := hG_s3 256 39
    show xe none 185 18 [(0, .ref 256), (1, vi a), (2, vi b)] [vi z2] s3 0 0 _
    refine x_istore_n k185_18 (ls' := [(3, vi z2), (0, .ref 256), (1, vi a), (2, vi b)]) (by decide) rfl ?_
    refine x_A k185_19 (fun _ => rfl) ?_
    refine x_getR k185_20 (f := 22) rfl (q := 256) (n := 62) (kd := 15) ⟨by decide, rfl⟩ (q2 := 273) (by decide) rfl ?_
    refine x_A k185_23 (fun _ => rfl) ?_
    refine x_A k185_24 (fun _ => rfl) ?_
    refine x_getI k185_25 (f := 39) rfl (q := 256) (n := 62) (kd := 15) ⟨by decide, rfl⟩ (by decide) rfl ?_
    rw [e_z6.symm]
    refine x_iast k185_28 (q := 273) (n := 72) ⟨by decide, rfl⟩ (by decide) (by first | exact x_rbl b_a rfl rfl | exact ⟨by omega, by omega⟩) ?_
    refine x_nh (fun s7 e_s7 => ?_)
    have hG_s7 : GI s7 := by rw [e_s7]; exact hG_s3.up (show (-2147483648) ≤ z6 ∧ z6 ≤ 2147483647 from (by first | exact x_rbe e_z6 g_z6 rfl rfl | exact x_rb g_z6 rfl rfl | exact ⟨by omega, by omega⟩))
    have f_s7 : FL [4133, 4136, 4132, 4134, 4135, 5184, 5248] s0 s7 := by rw [e_s7]; exact f_s3.up (show 5184 ∈ [4133, 4136, 4132, 4134, 4135, 5184, 5248] from by decide +kernel)
    have q8 : s7 256 36 = z4 := by rw [e_s7, x_up_q (by decide)]; exact e_z4.symm
    have q9 : s7 256 34 = z5 := by rw [e_s7, x_up_q (by decide)]; exact e_z5.symm
    have q10 : s7 256 39 = z6 := by rw [e_s7, x_up_q (by decide)]; exact e_z6.symm
    have q11 : s7 273 a.toNat = z6 := by rw [e_s7]; exact x_up_same
    have Ra_s7 : JRc s7 a := by rw [e_s7]; exact JRc.st Ra_s3 (by omega)
    refine x_A k185_29 (fun _ => rfl) ?_
    refine x_if_le k185_30 (t := 37) rfl (by first | exact x_rbe e_z2 g_z2 rfl rfl | exact x_rb g_z2 rfl rfl | exact ⟨by omega, by omega⟩) (fun c12 => ?_) (fun c12 => ?_)
    · skip
      refine x_A k185_37 (fun _ => rfl) ?_
      refine x_A k185_38 (fun _ => rfl) ?_
      refine x_A k185_39 (fun _ => rfl) ?_
      refine x_ic_ne k185_40 (t := 60) rfl (by first | exact x_rb b_b rfl rfl | exact ⟨by omega, by omega⟩) ⟨by decide, by decide⟩ (fun c13 => ?_) (fun c13 => ?_)
      · skip
        refine x_bipush k185_60 (by decide +kernel) ?_
        refine x_bipush k185_62 (by decide +kernel) ?_
        refine x_bipush k185_64 (by decide +kernel) ?_
        refine x_bipush k185_66 (by decide +kernel) ?_
        refine x_A k185_68 (fun _ => rfl) ?_
        refine x_A k185_69 (fun _ => rfl) ?_
        refine x_callS k185_70 (y := 179) (n := 6) (w0 := 1) (w1 := 6) (as := [vi 119, vi 105, vi 116, vi 104, vi 0, vi 0]) (rest := [.ref 256]) (by decide +kernel) rfl rfl rfl rfl (xe_mono (C_X11_code s7 hG_s7 119 ⟨by decide, by decide⟩ 105 ⟨by decide, by decide⟩ 116 ⟨by decide, by decide⟩ 104 ⟨by decide, by decide⟩ 0 ⟨by decide, by decide⟩ 0 ⟨by decide, by decide⟩) ?_)
        rintro s15 v ⟨-, t_s15, z14, rfl, b_z14⟩
        rw [t_s15.nil]
        show xe none 185 73 [(3, vi z2), (0, .ref 256), (1, vi a), (2, vi b)] [vj z14, .ref 256] s7 0 0 _
        refine x_callV k185_73 (y := 181) (n := 1) (w0 := 0) (w1 := 2) (as := [vj z14]) (rest := []) (by decide +kernel) (q := 256) (nq := 62) (kq := 15) ⟨by decide, rfl⟩ rfl rfl rfl rfl (xe_mono (C_X11_needs_256 s7 hG_s7 z14 b_z14) ?_)
        rintro s17 v ⟨hG_s17, t_s17, z16, rfl, g_z16⟩
        have f_s17 : FL [4133, 4136, 4132, 4134, 4135, 5184, 5248] s0 s17 := f_s7.tr t_s17 (by decide +kernel)
        have q18 : s17 256 34 = z5 := (t_s17 256 34 (show 4131 ∉ [4133, 4134, 4135, 4132] from by decide +kernel)).trans q9
        have q19 : s17 256 39 = z6 := (t_s17 256 39 (show 4136 ∉ [4133, 4134, 4135, 4132] from by decide +kernel)).trans q10
        have q20 : s17 273 a.toNat = z6 := (t_s17 273 a.toNat (show 5184 ∉ [4133, 4134, 4135, 4132] from by decide +kernel)).trans q11
        have Ra_s17 : JRc s17 a := JRc.fl Ra_s7 t_s17 (by decide +kernel)
        show xe none 185 76 [(3, vi z2), (0, .ref 256), (1, vi a), (2, vi b)] [vi z16] s17 0 0 _
        refine x_istore_n k185_76 (ls' := [(3, vi z16), (0, .ref 256), (1, vi a), (2, vi b)]) (by decide) rfl ?_
        refine x_A k185_77 (fun _ => rfl) ?_
        refine x_if_le k185_78 (t := 85) rfl (by first | exact x_rbe e_z16 g_z16 rfl rfl | exact x_rb g_z16 rfl rfl | exact ⟨by omega, by omega⟩) (fun c21 => ?_) (fun c21 => ?_)
        · skip
          refine x_A k185_85 (fun _ => rfl) ?_
          refine x_A k185_86 (fun _ => rfl) ?_
          refine x_A k185_87 (fun _ => rfl) ?_
          refine x_A k185_88 (fun _ => rfl) ?_
          refine x_ic_ne k185_89 (t := 96) rfl (by first | exact x_rb b_b rfl rfl | exact ⟨by omega, by omega⟩) ⟨by decide, by decide⟩ (fun c22 => by exfalso; omega) (fun c22 => ?_)
          refine x_A k185_92 (fun _ => rfl) ?_
          refine x_goto k185_93 (t := 98) rfl ?_
          refine x_A k185_98 (fun _ => rfl) ?_
          refine x_A k185_99 (fun _ => rfl) ?_
          refine x_callV k185_100 (y := 180) (n := 4) (w0 := 0) (w1 := 4) (as := [vi 0, vi 5, vi 2, vi 2]) (rest := []) (by decide +kernel) (q := 256) (nq := 62) (kq := 15) ⟨by decide, rfl⟩ rfl rfl rfl rfl (xe_mono (C_X11_readNumber_256 s17 hG_s17 0 ⟨by decide, by decide⟩ 5 ⟨by decide, by decide⟩ 2 ⟨by decide, by decide⟩ 2 ⟨by decide, by decide⟩) ?_)
          rintro s24 v ⟨hG_s24, t_s24, z23, rfl, g_z23, xp_z23⟩
          have f_s24 : FL [4133, 4136, 4132, 4134, 4135, 5184, 5248] s0 s24 := f_s17.tr t_s24 (by decide +kernel)
          have q25 : s24 256 34 = z5 := (t_s24 256 34 (show 4131 ∉ [4133, 4136, 4132] from by decide +kernel)).trans q18
          have q26 : s24 273 a.toNat = z6 := (t_s24 273 a.toNat (show 5184 ∉ [4133, 4136, 4132] from by decide +kernel)).trans q20
          have Ra_s24 : JRc s24 a := JRc.fl Ra_s17 t_s24 (by decide +kernel)
          obtain ⟨z27, e_z27⟩ : ∃ z, z = s24 256 36 := ⟨_, rfl⟩
          have g_z27 : (0 : Int) ≤ s24 256 36 ∧ s24 256 36 ≤ 160 := hG_s24 256 36
          obtain ⟨z28, e_z28⟩ : ∃ z, z = s24 256 39 := ⟨_, rfl⟩
          have g_z28 : (0 : Int) ≤ s24 256 39 ∧ s24 256 39 ≤ 1100000 := hG_s24 256 39
          show xe none 185 103 [(3, vi z16), (0, .ref 256), (1, vi a), (2, vi b)] [vi z23] s24 0 0 _
          refine x_istore_n k185_103 (ls' := [(3, vi z23), (0, .ref 256), (1, vi a), (2, vi b)]) (by decide) rfl ?_
          refine x_A k185_104 (fun _ => rfl) ?_
          refine x_getR k185_105 (f := 23) rfl (q := 256) (n := 62) (kd := 15) ⟨by decide, rfl⟩ (q2 := 274) (by decide) rfl ?_
          refine x_A k185_108 (fun _ => rfl) ?_
          refine x_A k185_109 (fun _ => rfl) ?_
          refine x_getI k185_110 (f := 39) rfl (q := 256) (n := 62) (kd := 15) ⟨by decide, rfl⟩ (by decide) rfl ?_
          rw [e_z28.symm]
          refine x_iast k185_113 (q := 274) (n := 72) ⟨by decide, rfl⟩ (by decide) (by first | exact x_rbl b_a rfl rfl | exact ⟨by omega, by omega⟩) ?_
          refine x_nh (fun s29 e_s29 => ?_)
          have hG_s29 : GI s29 := by rw [e_s29]; exact hG_s24.up (show (-2147483648) ≤ z28 ∧ z28 ≤ 2147483647 from (by first | exact x_rbe e_z28 g_z28 rfl rfl | exact x_rb g_z28 rfl rfl | exact ⟨by omega, by omega⟩))
          have f_s29 : FL [4133, 4136, 4132, 4134, 4135, 5184, 5248] s0 s29 := by rw [e_s29]; exact f_s24.up (show 5248 ∈ [4133, 4136, 4132, 4134, 4135, 5184, 5248] from by decide +kernel)
          have q30 : s29 256 34 = z5 := by rw [e_s29, x_up_q (by decide)]; exact q25
          have q31 : s29 256 36 = z27 := by rw [e_s29, x_up_q (by decide)]; exact e_z27.symm
          have q32 : s29 256 39 = z28 := by rw [e_s29, x_up_q (by decide)]; exact e_z28.symm
          have q33 : s29 273 a.toNat = z6 := by rw [e_s29, x_up_q (by first | decide | omega)]; exact q26
          have q34 : s29 274 a.toNat = z28 := by rw [e_s29]; exact x_up_same
          have Ra_s29 : JRc s29 a := by rw [e_s29]; exact JRc.up Ra_s24 (show 5248 ∉ [5120, 5184] from by decide +kernel)
          refine x_A k185_114 (fun _ => rfl) ?_
          exact x_iret k185_115 rfl ⟨hG_s29, f_s29, z23, rfl, (by first | exact x_rbe e_z23 g_z23 rfl rfl | exact x_rb g_z23 rfl rfl | exact ⟨by omega, by omega⟩), Ra_s29⟩
        · skip
          refine x_A k185_81 (fun _ => rfl) ?_
          refine x_goto k185_82 (t := 103) rfl ?_
          refine x_istore_n k185_103 (ls' := [(3, vi z16), (0, .ref 256), (1, vi a), (2, vi b)]) (by decide) rfl ?_
          refine x_A k185_104 (fun _ => rfl) ?_
          refine x_getR k185_105 (f := 23) rfl (q := 256) (n := 62) (kd := 15) ⟨by decide, rfl⟩ (q2 := 274) (by decide) rfl ?_
          refine x_A k185_108 (fun _ => rfl) ?_
          refine x_A k185_109 (fun _ => rfl) ?_
          refine x_getI k185_110 (f := 39) rfl (q := 256) (n := 62) (kd := 15) ⟨by decide, rfl⟩ (by decide) rfl ?_
          rw [q19]
          refine x_iast k185_113 (q := 274) (n := 72) ⟨by decide, rfl⟩ (by decide) (by first | exact x_rbl b_a rfl rfl | exact ⟨by omega, by omega⟩) ?_
          refine x_nh (fun s35 e_s35 => ?_)
          have hG_s35 : GI s35 := by rw [e_s35]; exact hG_s17.up (show (-2147483648) ≤ z6 ∧ z6 ≤ 2147483647 from (by first | exact x_rbe e_z6 g_z6 rfl rfl | exact x_rb g_z6 rfl rfl | exact ⟨by omega, by omega⟩))
          have f_s35 : FL [4133, 4136, 4132, 4134, 4135, 5184, 5248] s0 s35 := by rw [e_s35]; exact f_s17.up (show 5248 ∈ [4133, 4136, 4132, 4134, 4135, 5184, 5248] from by decide +kernel)
          have q36 : s35 256 34 = z5 := by rw [e_s35, x_up_q (by decide)]; exact q18
          have q37 : s35 256 39 = z6 := by rw [e_s35, x_up_q (by decide)]; exact q19
          have q38 : s35 273 a.toNat = z6 := by rw [e_s35, x_up_q (by first | decide | omega)]; exact q20
          have q39 : s35 274 a.toNat = z6 := by rw [e_s35]; exact x_up_same
          have Ra_s35 : JRc s35 a := by rw [e_s35]; exact JRc.up Ra_s17 (show 5248 ∉ [5120, 5184] from by decide +kernel)
          refine x_A k185_114 (fun _ => rfl) ?_
          exact x_iret k185_115 rfl ⟨hG_s35, f_s35, z16, rfl, (by first | exact x_rbe e_z16 g_z16 rfl rfl | exact x_rb g_z16 rfl rfl | exact ⟨by omega, by omega⟩), Ra_s35⟩
      · skip
        refine x_bipush k185_43 (by decide +kernel) ?_
        refine x_bipush k185_45 (by decide +kernel) ?_
        refine x_bipush k185_47 (by decide +kernel) ?_
        refine x_bipush k185_49 (by decide +kernel) ?_
        refine x_bipush k185_51 (by decide +kernel) ?_
        refine x_A k185_53 (fun _ => rfl) ?_
        refine x_callS k185_54 (y := 179) (n := 6) (w0 := 1) (w1 := 6) (as := [vi 117, vi 110, vi 100, vi 101, vi 114, vi 0]) (rest := [.ref 256]) (by decide +kernel) rfl rfl rfl rfl (xe_mono (C_X11_code s7 hG_s7 117 ⟨by decide, by decide⟩ 110 ⟨by decide, by decide⟩ 100 ⟨by decide, by decide⟩ 101 ⟨by decide, by decide⟩ 114 ⟨by decide, by decide⟩ 0 ⟨by decide, by decide⟩) ?_)
        rintro s41 v ⟨-, t_s41, z40, rfl, b_z40⟩
        rw [t_s41.nil]
        show xe none 185 57 [(3, vi z2), (0, .ref 256), (1, vi a), (2, vi b)] [vj z40, .ref 256] s7 0 0 _
        refine x_goto k185_57 (t := 73) rfl ?_
        refine x_callV k185_73 (y := 181) (n := 1) (w0 := 0) (w1 := 2) (as := [vj z40]) (rest := []) (by decide +kernel) (q := 256) (nq := 62) (kq := 15) ⟨by decide, rfl⟩ rfl rfl rfl rfl (xe_mono (C_X11_needs_256 s7 hG_s7 z40 b_z40) ?_)
        rintro s43 v ⟨hG_s43, t_s43, z42, rfl, g_z42⟩
        have f_s43 : FL [4133, 4136, 4132, 4134, 4135, 5184, 5248] s0 s43 := f_s7.tr t_s43 (by decide +kernel)
        have q44 : s43 256 34 = z5 := (t_s43 256 34 (show 4131 ∉ [4133, 4134, 4135, 4132] from by decide +kernel)).trans q9
        have q45 : s43 256 39 = z6 := (t_s43 256 39 (show 4136 ∉ [4133, 4134, 4135, 4132] from by decide +kernel)).trans q10
        have q46 : s43 273 a.toNat = z6 := (t_s43 273 a.toNat (show 5184 ∉ [4133, 4134, 4135, 4132] from by decide +kernel)).trans q11
        have Ra_s43 : JRc s43 a := JRc.fl Ra_s7 t_s43 (by decide +kernel)
        show xe none 185 76 [(3, vi z2), (0, .ref 256), (1, vi a), (2, vi b)] [vi z42] s43 0 0 _
        refine x_istore_n k185_76 (ls' := [(3, vi z42), (0, .ref 256), (1, vi a), (2, vi b)]) (by decide) rfl ?_
        refine x_A k185_77 (fun _ => rfl) ?_
        refine x_if_le k185_78 (t := 85) rfl (by first | exact x_rbe e_z42 g_z42 rfl rfl | exact x_rb g_z42 rfl rfl | exact ⟨by omega, by omega⟩) (fun c47 => ?_) (fun c47 => ?_)
        · skip
          refine x_A k185_85 (fun _ => rfl) ?_
          refine x_A k185_86 (fun _ => rfl) ?_
          refine x_A k185_87 (fun _ => rfl) ?_
          refine x_A k185_88 (fun _ => rfl) ?_
          refine x_ic_ne k185_89 (t := 96) rfl (by first | exact x_rb b_b rfl rfl | exact ⟨by omega, by omega⟩) ⟨by decide, by decide⟩ (fun c48 => ?_) (fun c48 => by exfalso; omega)
          refine x_bipush k185_96 (by decide +kernel) ?_
          refine x_A k185_98 (fun _ => rfl) ?_
          refine x_A k185_99 (fun _ => rfl) ?_
          refine x_callV k185_100 (y := 180) (n := 4) (w0 := 0) (w1 := 4) (as := [vi 0, vi 39, vi 2, vi 2]) (rest := []) (by decide +kernel) (q := 256) (nq := 62) (kq := 15) ⟨by decide, rfl⟩ rfl rfl rfl rfl (xe_mono (C_X11_readNumber_256 s43 hG_s43 0 ⟨by decide, by decide⟩ 39 ⟨by decide, by decide⟩ 2 ⟨by decide, by decide⟩ 2 ⟨by decide, by decide⟩) ?_)
          rintro s50 v ⟨hG_s50, t_s50, z49, rfl, g_z49, xp_z49⟩
          have f_s50 : FL [4133, 4136, 4132, 4134, 4135, 5184, 5248] s0 s50 := f_s43.tr t_s50 (by decide +kernel)
          have q51 : s50 256 34 = z5 := (t_s50 256 34 (show 4131 ∉ [4133, 4136, 4132] from by decide +kernel)).trans q44
          have q52 : s50 273 a.toNat = z6 := (t_s50 273 a.toNat (show 5184 ∉ [4133, 4136, 4132] from by decide +kernel)).trans q46
          have Ra_s50 : JRc s50 a := JRc.fl Ra_s43 t_s50 (by decide +kernel)
          obtain ⟨z53, e_z53⟩ : ∃ z, z = s50 256 36 := ⟨_, rfl⟩
          have g_z53 : (0 : Int) ≤ s50 256 36 ∧ s50 256 36 ≤ 160 := hG_s50 256 36
          obtain ⟨z54, e_z54⟩ : ∃ z, z = s50 256 39 := ⟨_, rfl⟩
          have g_z54 : (0 : Int) ≤ s50 256 39 ∧ s50 256 39 ≤ 1100000 := hG_s50 256 39
          show xe none 185 103 [(3, vi z42), (0, .ref 256), (1, vi a), (2, vi b)] [vi z49] s50 0 0 _
          refine x_istore_n k185_103 (ls' := [(3, vi z49), (0, .ref 256), (1, vi a), (2, vi b)]) (by decide) rfl ?_
          refine x_A k185_104 (fun _ => rfl) ?_
          refine x_getR k185_105 (f := 23) rfl (q := 256) (n := 62) (kd := 15) ⟨by decide, rfl⟩ (q2 := 274) (by decide) rfl ?_
          refine x_A k185_108 (fun _ => rfl) ?_
          refine x_A k185_109 (fun _ => rfl) ?_
          refine x_getI k185_110 (f := 39) rfl (q := 256) (n := 62) (kd := 15) ⟨by decide, rfl⟩ (by decide) rfl ?_
          rw [e_z54.symm]
          refine x_iast k185_113 (q := 274) (n := 72) ⟨by decide, rfl⟩ (by decide) (by first | exact x_rbl b_a rfl rfl | exact ⟨by omega, by omega⟩) ?_
          refine x_nh (fun s55 e_s55 => ?_)
          have hG_s55 : GI s55 := by rw [e_s55]; exact hG_s50.up (show (-2147483648) ≤ z54 ∧ z54 ≤ 2147483647 from (by first | exact x_rbe e_z54 g_z54 rfl rfl | exact x_rb g_z54 rfl rfl | exact ⟨by omega, by omega⟩))
          have f_s55 : FL [4133, 4136, 4132, 4134, 4135, 5184, 5248] s0 s55 := by rw [e_s55]; exact f_s50.up (show 5248 ∈ [4133, 4136, 4132, 4134, 4135, 5184, 5248] from by decide +kernel)
          have q56 : s55 256 34 = z5 := by rw [e_s55, x_up_q (by decide)]; exact q51
          have q57 : s55 256 36 = z53 := by rw [e_s55, x_up_q (by decide)]; exact e_z53.symm
          have q58 : s55 256 39 = z54 := by rw [e_s55, x_up_q (by decide)]; exact e_z54.symm
          have q59 : s55 273 a.toNat = z6 := by rw [e_s55, x_up_q (by first | decide | omega)]; exact q52
          have q60 : s55 274 a.toNat = z54 := by rw [e_s55]; exact x_up_same
          have Ra_s55 : JRc s55 a := by rw [e_s55]; exact JRc.up Ra_s50 (show 5248 ∉ [5120, 5184] from by decide +kernel)
          refine x_A k185_114 (fun _ => rfl) ?_
          exact x_iret k185_115 rfl ⟨hG_s55, f_s55, z49, rfl, (by first | exact x_rbe e_z49 g_z49 rfl rfl | exact x_rb g_z49 rfl rfl | exact ⟨by omega, by omega⟩), Ra_s55⟩
        · skip
          refine x_A k185_81 (fun _ => rfl) ?_
          refine x_goto k185_82 (t := 103) rfl ?_
          refine x_istore_n k185_103 (ls' := [(3, vi z42), (0, .ref 256), (1, vi a), (2, vi b)]) (by decide) rfl ?_
          refine x_A k185_104 (fun _ => rfl) ?_
          refine x_getR k185_105 (f := 23) rfl (q := 256) (n := 62) (kd := 15) ⟨by decide, rfl⟩ (q2 := 274) (by decide) rfl ?_
          refine x_A k185_108 (fun _ => rfl) ?_
          refine x_A k185_109 (fun _ => rfl) ?_
          refine x_getI k185_110 (f := 39) rfl (q := 256) (n := 62) (kd := 15) ⟨by decide, rfl⟩ (by decide) rfl ?_
          rw [q45]
          refine x_iast k185_113 (q := 274) (n := 72) ⟨by decide, rfl⟩ (by decide) (by first | exact x_rbl b_a rfl rfl | exact ⟨by omega, by omega⟩) ?_
          refine x_nh (fun s61 e_s61 => ?_)
          have hG_s61 : GI s61 := by rw [e_s61]; exact hG_s43.up (show (-2147483648) ≤ z6 ∧ z6 ≤ 2147483647 from (by first | exact x_rbe e_z6 g_z6 rfl rfl | exact x_rb g_z6 rfl rfl | exact ⟨by omega, by omega⟩))
          have f_s61 : FL [4133, 4136, 4132, 4134, 4135, 5184, 5248] s0 s61 := by rw [e_s61]; exact f_s43.up (show 5248 ∈ [4133, 4136, 4132, 4134, 4135, 5184, 5248] from by decide +kernel)
          have q62 : s61 256 34 = z5 := by rw [e_s61, x_up_q (by decide)]; exact q44
          have q63 : s61 256 39 = z6 := by rw [e_s61, x_up_q (by decide)]; exact q45
          have q64 : s61 273 a.toNat = z6 := by rw [e_s61, x_up_q (by first | decide | omega)]; exact q46
          have q65 : s61 274 a.toNat = z6 := by rw [e_s61]; exact x_up_same
          have Ra_s61 : JRc s61 a := by rw [e_s61]; exact JRc.up Ra_s43 (show 5248 ∉ [5120, 5184] from by decide +kernel)
          refine x_A k185_114 (fun _ => rfl) ?_
          exact x_iret k185_115 rfl ⟨hG_s61, f_s61, z42, rfl, (by first | exact x_rbe e_z42 g_z42 rfl rfl | exact x_rb g_z42 rfl rfl | exact ⟨by omega, by omega⟩), Ra_s61⟩
    · skip
      refine x_A k185_33 (fun _ => rfl) ?_
      refine x_goto k185_34 (t := 76) rfl ?_
      refine x_istore_n k185_76 (ls' := [(3, vi z2), (0, .ref 256), (1, vi a), (2, vi b)]) (by decide) rfl ?_
      refine x_A k185_77 (fun _ => rfl) ?_
      refine x_if_le k185_78 (t := 85) rfl (by first | exact x_rbe e_z2 g_z2 rfl rfl | exact x_rb g_z2 rfl rfl | exact ⟨by omega, by omega⟩) (fun c66 => by exfalso; omega) (fun c66 => ?_)
      refine x_A k185_81 (fun _ => rfl) ?_
      refine x_goto k185_82 (t := 103) rfl ?_
      refine x_istore_n k185_103 (ls' := [(3, vi z2), (0, .ref 256), (1, vi a), (2, vi b)]) (by decide) rfl ?_
      refine x_A k185_104 (fun _ => rfl) ?_
      refine x_getR k185_105 (f := 23) rfl (q := 256) (n := 62) (kd := 15) ⟨by decide, rfl⟩ (q2 := 274) (by decide) rfl ?_
      refine x_A k185_108 (fun _ => rfl) ?_
      refine x_A k185_109 (fun _ => rfl) ?_
      refine x_getI k185_110 (f := 39) rfl (q := 256) (n := 62) (kd := 15) ⟨by decide, rfl⟩ (by decide) rfl ?_
      rw [q10]
      refine x_iast k185_113 (q := 274) (n := 72) ⟨by decide, rfl⟩ (by decide) (by first | exact x_rbl b_a rfl rfl | exact ⟨by omega, by omega⟩) ?_
      refine x_nh (fun s67 e_s67 => ?_)
      have hG_s67 : GI s67 := by rw [e_s67]; exact hG_s7.up (show (-2147483648) ≤ z6 ∧ z6 ≤ 2147483647 from (by first | exact x_rbe e_z6 g_z6 rfl rfl | exact x_rb g_z6 rfl rfl | exact ⟨by omega, by omega⟩))
      have f_s67 : FL [4133, 4136, 4132, 4134, 4135, 5184, 5248] s0 s67 := by rw [e_s67]; exact f_s7.up (show 5248 ∈ [4133, 4136, 4132, 4134, 4135, 5184, 5248] from by decide +kernel)
      have q68 : s67 256 36 = z4 := by rw [e_s67, x_up_q (by decide)]; exact q8
      have q69 : s67 256 34 = z5 := by rw [e_s67, x_up_q (by decide)]; exact q9
      have q70 : s67 256 39 = z6 := by rw [e_s67, x_up_q (by decide)]; exact q10
      have q71 : s67 273 a.toNat = z6 := by rw [e_s67, x_up_q (by first | decide | omega)]; exact q11
      have q72 : s67 274 a.toNat = z6 := by rw [e_s67]; exact x_up_same
      have Ra_s67 : JRc s67 a := by rw [e_s67]; exact JRc.up Ra_s7 (show 5248 ∉ [5120, 5184] from by decide +kernel)
      refine x_A k185_114 (fun _ => rfl) ?_
      exact x_iret k185_115 rfl ⟨hG_s67, f_s67, z2, rfl, (by first | exact x_rbe e_z2 g_z2 rfl rfl | exact x_rb g_z2 rfl rfl | exact ⟨by omega, by omega⟩), Ra_s67⟩
  · skip
    refine x_bipush k185_7 (by decide +kernel) ?_
    refine x_goto k185_9 (t := 13) rfl ?_
    refine x_A k185_13 (fun _ => rfl) ?_
    refine x_A k185_14 (fun _ => rfl) ?_
    refine x_callV k185_15 (y := 180) (n := 4) (w0 := 0) (w1 := 4) (as := [vi 0, vi 39, vi 2, vi 2]) (rest := []) (by decide +kernel) (q := 256) (nq := 62) (kq := 15) ⟨by decide, rfl⟩ rfl rfl rfl rfl (xe_mono (C_X11_readNumber_256 s0 hG0 0 ⟨by decide, by decide⟩ 39 ⟨by decide, by decide⟩ 2 ⟨by decide, by decide⟩ 2 ⟨by decide, by decide⟩) ?_)
    rintro s74 v ⟨hG_s74, t_s74, z73, rfl, g_z73, xp_z73⟩
    have f_s74 : FL [4133, 4136, 4132, 4134, 4135, 5184, 5248] s0 s74 := f0.tr t_s74 (by decide +kernel)
    have Ra_s74 : JRc s74 a := JRc.fl i0_Ra t_s74 (by decide +kernel)
    obtain ⟨z75, e_z75⟩ : ∃ z, z = s74 256 36 := ⟨_, rfl⟩
    have g_z75 : (0 : Int) ≤ s74 256 36 ∧ s74 256 36 ≤ 160 := hG_s74 256 36
    obtain ⟨z76, e_z76⟩ : ∃ z, z = s74 256 34 := ⟨_, rfl⟩
    have g_z76 : (0 : Int) ≤ s74 256 34 ∧ s74 256 34 ≤ 160 := hG_s74 256 34
    obtain ⟨z77, e_z77⟩ : ∃ z, z = s74 256 39 := ⟨_, rfl⟩
    have g_z77 : (0 : Int) ≤ s74 256 39 ∧ s74 256 39 ≤ 1100000 := hG_s74 256 39
    show xe none 185 18 [(0, .ref 256), (1, vi a), (2, vi b)] [vi z73] s74 0 0 _
    refine x_istore_n k185_18 (ls' := [(3, vi z73), (0, .ref 256), (1, vi a), (2, vi b)]) (by decide) rfl ?_
    refine x_A k185_19 (fun _ => rfl) ?_
    refine x_getR k185_20 (f := 22) rfl (q := 256) (n := 62) (kd := 15) ⟨by decide, rfl⟩ (q2 := 273) (by decide) rfl ?_
    refine x_A k185_23 (fun _ => rfl) ?_
    refine x_A k185_24 (fun _ => rfl) ?_
    refine x_getI k185_25 (f := 39) rfl (q := 256) (n := 62) (kd := 15) ⟨by decide, rfl⟩ (by decide) rfl ?_
    rw [e_z77.symm]
    refine x_iast k185_28 (q := 273) (n := 72) ⟨by decide, rfl⟩ (by decide) (by first | exact x_rbl b_a rfl rfl | exact ⟨by omega, by omega⟩) ?_
    refine x_nh (fun s78 e_s78 => ?_)
    have hG_s78 : GI s78 := by rw [e_s78]; exact hG_s74.up (show (-2147483648) ≤ z77 ∧ z77 ≤ 2147483647 from (by first | exact x_rbe e_z77 g_z77 rfl rfl | exact x_rb g_z77 rfl rfl | exact ⟨by omega, by omega⟩))
    have f_s78 : FL [4133, 4136, 4132, 4134, 4135, 5184, 5248] s0 s78 := by rw [e_s78]; exact f_s74.up (show 5184 ∈ [4133, 4136, 4132, 4134, 4135, 5184, 5248] from by decide +kernel)
    have q79 : s78 256 36 = z75 := by rw [e_s78, x_up_q (by decide)]; exact e_z75.symm
    have q80 : s78 256 34 = z76 := by rw [e_s78, x_up_q (by decide)]; exact e_z76.symm
    have q81 : s78 256 39 = z77 := by rw [e_s78, x_up_q (by decide)]; exact e_z77.symm
    have q82 : s78 273 a.toNat = z77 := by rw [e_s78]; exact x_up_same
    have Ra_s78 : JRc s78 a := by rw [e_s78]; exact JRc.st Ra_s74 (by omega)
    refine x_A k185_29 (fun _ => rfl) ?_
    refine x_if_le k185_30 (t := 37) rfl (by first | exact x_rbe e_z73 g_z73 rfl rfl | exact x_rb g_z73 rfl rfl | exact ⟨by omega, by omega⟩) (fun c83 => ?_) (fun c83 => ?_)
    · skip
      refine x_A k185_37 (fun _ => rfl) ?_
      refine x_A k185_38 (fun _ => rfl) ?_
      refine x_A k185_39 (fun _ => rfl) ?_
      refine x_ic_ne k185_40 (t := 60) rfl (by first | exact x_rb b_b rfl rfl | exact ⟨by omega, by omega⟩) ⟨by decide, by decide⟩ (fun c84 => ?_) (fun c84 => by exfalso; omega)
      refine x_bipush k185_60 (by decide +kernel) ?_
      refine x_bipush k185_62 (by decide +kernel) ?_
      refine x_bipush k185_64 (by decide +kernel) ?_
      refine x_bipush k185_66 (by decide +kernel) ?_
      refine x_A k185_68 (fun _ => rfl) ?_
      refine x_A k185_69 (fun _ => rfl) ?_
      refine x_callS k185_70 (y := 179) (n := 6) (w0 := 1) (w1 := 6) (as := [vi 119, vi 105, vi 116, vi 104, vi 0, vi 0]) (rest := [.ref 256]) (by decide +kernel) rfl rfl rfl rfl (xe_mono (C_X11_code s78 hG_s78 119 ⟨by decide, by decide⟩ 105 ⟨by decide, by decide⟩ 116 ⟨by decide, by decide⟩ 104 ⟨by decide, by decide⟩ 0 ⟨by decide, by decide⟩ 0 ⟨by decide, by decide⟩) ?_)
      rintro s86 v ⟨-, t_s86, z85, rfl, b_z85⟩
      rw [t_s86.nil]
      show xe none 185 73 [(3, vi z73), (0, .ref 256), (1, vi a), (2, vi b)] [vj z85, .ref 256] s78 0 0 _
      refine x_callV k185_73 (y := 181) (n := 1) (w0 := 0) (w1 := 2) (as := [vj z85]) (rest := []) (by decide +kernel) (q := 256) (nq := 62) (kq := 15) ⟨by decide, rfl⟩ rfl rfl rfl rfl (xe_mono (C_X11_needs_256 s78 hG_s78 z85 b_z85) ?_)
      rintro s88 v ⟨hG_s88, t_s88, z87, rfl, g_z87⟩
      have f_s88 : FL [4133, 4136, 4132, 4134, 4135, 5184, 5248] s0 s88 := f_s78.tr t_s88 (by decide +kernel)
      have q89 : s88 256 34 = z76 := (t_s88 256 34 (show 4131 ∉ [4133, 4134, 4135, 4132] from by decide +kernel)).trans q80
      have q90 : s88 256 39 = z77 := (t_s88 256 39 (show 4136 ∉ [4133, 4134, 4135, 4132] from by decide +kernel)).trans q81
      have q91 : s88 273 a.toNat = z77 := (t_s88 273 a.toNat (show 5184 ∉ [4133, 4134, 4135, 4132] from by decide +kernel)).trans q82
      have Ra_s88 : JRc s88 a := JRc.fl Ra_s78 t_s88 (by decide +kernel)
      show xe none 185 76 [(3, vi z73), (0, .ref 256), (1, vi a), (2, vi b)] [vi z87] s88 0 0 _
      refine x_istore_n k185_76 (ls' := [(3, vi z87), (0, .ref 256), (1, vi a), (2, vi b)]) (by decide) rfl ?_
      refine x_A k185_77 (fun _ => rfl) ?_
      refine x_if_le k185_78 (t := 85) rfl (by first | exact x_rbe e_z87 g_z87 rfl rfl | exact x_rb g_z87 rfl rfl | exact ⟨by omega, by omega⟩) (fun c92 => ?_) (fun c92 => ?_)
      · skip
        refine x_A k185_85 (fun _ => rfl) ?_
        refine x_A k185_86 (fun _ => rfl) ?_
        refine x_A k185_87 (fun _ => rfl) ?_
        refine x_A k185_88 (fun _ => rfl) ?_
        refine x_ic_ne k185_89 (t := 96) rfl (by first | exact x_rb b_b rfl rfl | exact ⟨by omega, by omega⟩) ⟨by decide, by decide⟩ (fun c93 => ?_) (fun c93 => by exfalso; omega)
        refine x_bipush k185_96 (by decide +kernel) ?_
        refine x_A k185_98 (fun _ => rfl) ?_
        refine x_A k185_99 (fun _ => rfl) ?_
        refine x_callV k185_100 (y := 180) (n := 4) (w0 := 0) (w1 := 4) (as := [vi 0, vi 39, vi 2, vi 2]) (rest := []) (by decide +kernel) (q := 256) (nq := 62) (kq := 15) ⟨by decide, rfl⟩ rfl rfl rfl rfl (xe_mono (C_X11_readNumber_256 s88 hG_s88 0 ⟨by decide, by decide⟩ 39 ⟨by decide, by decide⟩ 2 ⟨by decide, by decide⟩ 2 ⟨by decide, by decide⟩) ?_)
        rintro s95 v ⟨hG_s95, t_s95, z94, rfl, g_z94, xp_z94⟩
        have f_s95 : FL [4133, 4136, 4132, 4134, 4135, 5184, 5248] s0 s95 := f_s88.tr t_s95 (by decide +kernel)
        have q96 : s95 256 34 = z76 := (t_s95 256 34 (show 4131 ∉ [4133, 4136, 4132] from by decide +kernel)).trans q89
        have q97 : s95 273 a.toNat = z77 := (t_s95 273 a.toNat (show 5184 ∉ [4133, 4136, 4132] from by decide +kernel)).trans q91
        have Ra_s95 : JRc s95 a := JRc.fl Ra_s88 t_s95 (by decide +kernel)
        obtain ⟨z98, e_z98⟩ : ∃ z, z = s95 256 36 := ⟨_, rfl⟩
        have g_z98 : (0 : Int) ≤ s95 256 36 ∧ s95 256 36 ≤ 160 := hG_s95 256 36
        obtain ⟨z99, e_z99⟩ : ∃ z, z = s95 256 39 := ⟨_, rfl⟩
        have g_z99 : (0 : Int) ≤ s95 256 39 ∧ s95 256 39 ≤ 1100000 := hG_s95 256 39
        show xe none 185 103 [(3, vi z87), (0, .ref 256), (1, vi a), (2, vi b)] [vi z94] s95 0 0 _
        refine x_istore_n k185_103 (ls' := [(3, vi z94), (0, .ref 256), (1, vi a), (2, vi b)]) (by decide) rfl ?_
        refine x_A k185_104 (fun _ => rfl) ?_
        refine x_getR k185_105 (f := 23) rfl (q := 256) (n := 62) (kd := 15) ⟨by decide, rfl⟩ (q2 := 274) (by decide) rfl ?_
        refine x_A k185_108 (fun _ => rfl) ?_
        refine x_A k185_109 (fun _ => rfl) ?_
        refine x_getI k185_110 (f := 39) rfl (q := 256) (n := 62) (kd := 15) ⟨by decide, rfl⟩ (by decide) rfl ?_
        rw [e_z99.symm]
        refine x_iast k185_113 (q := 274) (n := 72) ⟨by decide, rfl⟩ (by decide) (by first | exact x_rbl b_a rfl rfl | exact ⟨by omega, by omega⟩) ?_
        refine x_nh (fun s100 e_s100 => ?_)
        have hG_s100 : GI s100 := by rw [e_s100]; exact hG_s95.up (show (-2147483648) ≤ z99 ∧ z99 ≤ 2147483647 from (by first | exact x_rbe e_z99 g_z99 rfl rfl | exact x_rb g_z99 rfl rfl | exact ⟨by omega, by omega⟩))
        have f_s100 : FL [4133, 4136, 4132, 4134, 4135, 5184, 5248] s0 s100 := by rw [e_s100]; exact f_s95.up (show 5248 ∈ [4133, 4136, 4132, 4134, 4135, 5184, 5248] from by decide +kernel)
        have q101 : s100 256 34 = z76 := by rw [e_s100, x_up_q (by decide)]; exact q96
        have q102 : s100 256 36 = z98 := by rw [e_s100, x_up_q (by decide)]; exact e_z98.symm
        have q103 : s100 256 39 = z99 := by rw [e_s100, x_up_q (by decide)]; exact e_z99.symm
        have q104 : s100 273 a.toNat = z77 := by rw [e_s100, x_up_q (by first | decide | omega)]; exact q97
        have q105 : s100 274 a.toNat = z99 := by rw [e_s100]; exact x_up_same
        have Ra_s100 : JRc s100 a := by rw [e_s100]; exact JRc.up Ra_s95 (show 5248 ∉ [5120, 5184] from by decide +kernel)
        refine x_A k185_114 (fun _ => rfl) ?_
        exact x_iret k185_115 rfl ⟨hG_s100, f_s100, z94, rfl, (by first | exact x_rbe e_z94 g_z94 rfl rfl | exact x_rb g_z94 rfl rfl | exact ⟨by omega, by omega⟩), Ra_s100⟩
      · skip
        refine x_A k185_81 (fun _ => rfl) ?_
        refine x_goto k185_82 (t := 103) rfl ?_
        refine x_istore_n k185_103 (ls' := [(3, vi z87), (0, .ref 256), (1, vi a), (2, vi b)]) (by decide) rfl ?_
        refine x_A k185_104 (fun _ => rfl) ?_
        refine x_getR k185_105 (f := 23) rfl (q := 256) (n := 62) (kd := 15) ⟨by decide, rfl⟩ (q2 := 274) (by decide) rfl ?_
        refine x_A k185_108 (fun _ => rfl) ?_
        refine x_A k185_109 (fun _ => rfl) ?_
        refine x_getI k185_110 (f := 39) rfl (q := 256) (n := 62) (kd := 15) ⟨by decide, rfl⟩ (by decide) rfl ?_
        rw [q90]
        refine x_iast k185_113 (q := 274) (n := 72) ⟨by decide, rfl⟩ (by decide) (by first | exact x_rbl b_a rfl rfl | exact ⟨by omega, by omega⟩) ?_
        refine x_nh (fun s106 e_s106 => ?_)
        have hG_s106 : GI s106 := by rw [e_s106]; exact hG_s88.up (show (-2147483648) ≤ z77 ∧ z77 ≤ 2147483647 from (by first | exact x_rbe e_z77 g_z77 rfl rfl | exact x_rb g_z77 rfl rfl | exact ⟨by omega, by omega⟩))
        have f_s106 : FL [4133, 4136, 4132, 4134, 4135, 5184, 5248] s0 s106 := by rw [e_s106]; exact f_s88.up (show 5248 ∈ [4133, 4136, 4132, 4134, 4135, 5184, 5248] from by decide +kernel)
        have q107 : s106 256 34 = z76 := by rw [e_s106, x_up_q (by decide)]; exact q89
        have q108 : s106 256 39 = z77 := by rw [e_s106, x_up_q (by decide)]; exact q90
        have q109 : s106 273 a.toNat = z77 := by rw [e_s106, x_up_q (by first | decide | omega)]; exact q91
        have q110 : s106 274 a.toNat = z77 := by rw [e_s106]; exact x_up_same
        have Ra_s106 : JRc s106 a := by rw [e_s106]; exact JRc.up Ra_s88 (show 5248 ∉ [5120, 5184] from by decide +kernel)
        refine x_A k185_114 (fun _ => rfl) ?_
        exact x_iret k185_115 rfl ⟨hG_s106, f_s106, z87, rfl, (by first | exact x_rbe e_z87 g_z87 rfl rfl | exact x_rb g_z87 rfl rfl | exact ⟨by omega, by omega⟩), Ra_s106⟩
    · skip
      refine x_A k185_33 (fun _ => rfl) ?_
      refine x_goto k185_34 (t := 76) rfl ?_
      refine x_istore_n k185_76 (ls' := [(3, vi z73), (0, .ref 256), (1, vi a), (2, vi b)]) (by decide) rfl ?_
      refine x_A k185_77 (fun _ => rfl) ?_
      refine x_if_le k185_78 (t := 85) rfl (by first | exact x_rbe e_z73 g_z73 rfl rfl | exact x_rb g_z73 rfl rfl | exact ⟨by omega, by omega⟩) (fun c111 => by exfalso; omega) (fun c111 => ?_)
      refine x_A k185_81 (fun _ => rfl) ?_
      refine x_goto k185_82 (t := 103) rfl ?_
      refine x_istore_n k185_103 (ls' := [(3, vi z73), (0, .ref 256), (1, vi a), (2, vi b)]) (by decide) rfl ?_
      refine x_A k185_104 (fun _ => rfl) ?_
      refine x_getR k185_105 (f := 23) rfl (q := 256) (n := 62) (kd := 15) ⟨by decide, rfl⟩ (q2 := 274) (by decide) rfl ?_
      refine x_A k185_108 (fun _ => rfl) ?_
      refine x_A k185_109 (fun _ => rfl) ?_
      refine x_getI k185_110 (f := 39) rfl (q := 256) (n := 62) (kd := 15) ⟨by decide, rfl⟩ (by decide) rfl ?_
      rw [q81]
      refine x_iast k185_113 (q := 274) (n := 72) ⟨by decide, rfl⟩ (by decide) (by first | exact x_rbl b_a rfl rfl | exact ⟨by omega, by omega⟩) ?_
      refine x_nh (fun s112 e_s112 => ?_)
      have hG_s112 : GI s112 := by rw [e_s112]; exact hG_s78.up (show (-2147483648) ≤ z77 ∧ z77 ≤ 2147483647 from (by first | exact x_rbe e_z77 g_z77 rfl rfl | exact x_rb g_z77 rfl rfl | exact ⟨by omega, by omega⟩))
      have f_s112 : FL [4133, 4136, 4132, 4134, 4135, 5184, 5248] s0 s112 := by rw [e_s112]; exact f_s78.up (show 5248 ∈ [4133, 4136, 4132, 4134, 4135, 5184, 5248] from by decide +kernel)
      have q113 : s112 256 36 = z75 := by rw [e_s112, x_up_q (by decide)]; exact q79
      have q114 : s112 256 34 = z76 := by rw [e_s112, x_up_q (by decide)]; exact q80
      have q115 : s112 256 39 = z77 := by rw [e_s112, x_up_q (by decide)]; exact q81
      have q116 : s112 273 a.toNat = z77 := by rw [e_s112, x_up_q (by first | decide | omega)]; exact q82
      have q117 : s112 274 a.toNat = z77 := by rw [e_s112]; exact x_up_same
      have Ra_s112 : JRc s112 a := by rw [e_s112]; exact JRc.up Ra_s78 (show 5248 ∉ [5120, 5184] from by decide +kernel)
      refine x_A k185_114 (fun _ => rfl) ?_
      exact x_iret k185_115 rfl ⟨hG_s112, f_s112, z73, rfl, (by first | exact x_rbe e_z73 g_z73 rfl rfl | exact x_rb g_z73 rfl rfl | exact ⟨by omega, by omega⟩), Ra_s112⟩
theorem C_X11_readClause_256 (s0 : xS) (hG0 : GI s0) (a : Int) (b_a : 0 ≤ a ∧ a ≤ 71) (b : Int) (b_b : 0 ≤ b ∧ b ≤ 1) (i0_Ra : JRc s0 a) : xe none 186 0 (lv_args 0 [.ref 256, vi a, vi b]) [] s0 0 0 (fun s' v => GI s' ∧ FL [4133, 4136, 4132, 4134, 4135, 5120, 5184, 5248] s0 s' ∧ ∃ z, v = some (vi z) ∧ (0 ≤ z ∧ z ≤ 5) ∧ ((b = 1 → z ≠ 0) ∧ (z = 0 → JRc s' (a + 1))) ∧ JRc s' a) := by
  have f0 : FL [4133, 4136, 4132, 4134, 4135, 5120, 5184, 5248] s0 s0 := FL.rf
  show xe none 186 0 [(0, .ref 256), (1, vi a), (2, vi b)] [] s0 0 0 _
  refine x_A k186_0 (fun _ => rfl) ?_
  refine x_callV k186_1 (y := 178) (n := 0) (w0 := 0) (w1 := 0) (as := []) (rest := []) (by decide +kernel) (q := 256) (nq := 62) (kq := 15) ⟨by decide, rfl⟩ rfl rfl rfl rfl (xe_mono (C_X11_readWord_256 s0 hG0) ?_)
  rintro s2 v ⟨hG_s2, t_s2, rfl, xp_z1⟩
  have f_s2 : FL [4133, 4136, 4132, 4134, 4135, 5120, 5184, 5248] s0 s2 := f0.tr t_s2 (by decide +kernel)
  have Ra_s2 : JRc s2 a := JRc.fl i0_Ra t_s2 (by decide +kernel)
  obtain ⟨z3, e_z3⟩ : ∃ z, z = s2 256 36 := ⟨_, rfl⟩
  have g_z3 : (0 : Int) ≤ s2 256 36 ∧ s2 256 36 ≤ 160 := hG_s2 256 36
  obtain ⟨z4, e_z4⟩ : ∃ z, z = s2 256 34 := ⟨_, rfl⟩
  have g_z4 : (0 : Int) ≤ s2 256 34 ∧ s2 256 34 ≤ 160 := hG_s2 256 34
  obtain ⟨z5, e_z5⟩ : ∃ z, z = s2 256 38 := ⟨_, rfl⟩
  have g_z5 : (0 : Int) ≤ s2 256 38 ∧ s2 256 38 ≤ 160 := hG_s2 256 38
  show xe none 186 4 [(0, .ref 256), (1, vi a), (2, vi b)] [] s2 0 0 _
  refine x_A k186_4 (fun _ => rfl) ?_
  refine x_callV k186_5 (y := 183) (n := 0) (w0 := 0) (w1 := 0) (as := []) (rest := []) (by decide +kernel) (q := 256) (nq := 62) (kq := 15) ⟨by decide, rfl⟩ rfl rfl rfl rfl (xe_mono (C_X11_keyOf_256 s2 hG_s2) ?_)
  rintro s7 v ⟨-, t_s7, z6, rfl, g_z6⟩
  rw [t_s7.nil]
  show xe none 186 8 [(0, .ref 256), (1, vi a), (2, vi b)] [vi z6] s2 0 0 _
  refine x_istore_n k186_8 (ls' := [(3, vi z6), (0, .ref 256), (1, vi a), (2, vi b)]) (by decide) rfl ?_
  refine x_A k186_9 (fun _ => rfl) ?_
  refine x_if_lt k186_10 (t := 17) rfl (by first | exact x_rbe e_z6 g_z6 rfl rfl | exact x_rb g_z6 rfl rfl | exact ⟨by omega, by omega⟩) (fun c8 => ?_) (fun c8 => ?_)
  · skip
    refine x_A k186_17 (fun _ => rfl) ?_
    refine x_A k186_18 (fun _ => rfl) ?_
    refine x_if_ge k186_19 (t := 26) rfl (by first | exact x_rbe e_z6 g_z6 rfl rfl | exact x_rb g_z6 rfl rfl | exact ⟨by omega, by omega⟩) (fun c9 => by exfalso; omega) (fun c9 => ?_)
    refine x_A k186_22 (fun _ => rfl) ?_
    refine x_goto k186_23 (t := 27) rfl ?_
    refine x_A k186_27 (fun _ => rfl) ?_
    refine x_getI k186_28 (f := 36) rfl (q := 256) (n := 62) (kd := 15) ⟨by decide, rfl⟩ (by decide) rfl ?_
    rw [e_z3.symm]
    refine x_callV k186_31 (y := 177) (n := 2) (w0 := 0) (w1 := 2) (as := [vi 1, vi z3]) (rest := []) (by decide +kernel) (q := 256) (nq := 62) (kq := 15) ⟨by decide, rfl⟩ rfl rfl rfl rfl (xe_mono (C_X11_fails_256 s2 hG_s2 1 ⟨by decide, by decide⟩ z3 (by first | exact x_rbe e_z3 g_z3 rfl rfl | exact x_rb g_z3 rfl rfl | exact ⟨by omega, by omega⟩)) ?_)
    rintro s11 v ⟨hG_s11, t_s11, z10, rfl, g_z10, xp_z10⟩
    have f_s11 : FL [4133, 4136, 4132, 4134, 4135, 5120, 5184, 5248] s0 s11 := f_s2.tr t_s11 (by decide +kernel)
    have q12 : s11 256 36 = z3 := (t_s11 256 36 (show 4133 ∉ [4132] from by decide +kernel)).trans e_z3.symm
    have q13 : s11 256 34 = z4 := (t_s11 256 34 (show 4131 ∉ [4132] from by decide +kernel)).trans e_z4.symm
    have q14 : s11 256 38 = z5 := (t_s11 256 38 (show 4135 ∉ [4132] from by decide +kernel)).trans e_z5.symm
    have Ra_s11 : JRc s11 a := JRc.fl Ra_s2 t_s11 (by decide +kernel)
    show xe none 186 34 [(3, vi z6), (0, .ref 256), (1, vi a), (2, vi b)] [vi z10] s11 0 0 _
    exact x_iret k186_34 rfl ⟨hG_s11, f_s11, z10, rfl, (by first | exact x_rbe e_z10 g_z10 rfl rfl | exact x_rb g_z10 rfl rfl | exact ⟨by omega, by omega⟩), ⟨fun _ => by omega, fun hz => by exfalso; omega⟩, Ra_s11⟩
  · skip
    refine x_A k186_13 (fun _ => rfl) ?_
    refine x_if_eq k186_14 (t := 35) rfl (by first | exact x_rb b_b rfl rfl | exact ⟨by omega, by omega⟩) (fun c15 => ?_) (fun c15 => ?_)
    · skip
      refine x_A k186_35 (fun _ => rfl) ?_
      refine x_A k186_36 (fun _ => rfl) ?_
      refine x_getI k186_37 (f := 38) rfl (q := 256) (n := 62) (kd := 15) ⟨by decide, rfl⟩ (by decide) rfl ?_
      rw [e_z5.symm]
      refine x_putI k186_40 (f := 36) rfl (q := 256) (n := 62) (kd := 15) ⟨by decide, rfl⟩ rfl rfl rfl ?_
      refine x_nh (fun s16 e_s16 => ?_)
      have hG_s16 : GI s16 := by rw [e_s16]; exact hG_s2.up (show 0 ≤ z5 ∧ z5 ≤ 160 from (by first | exact x_rbe e_z5 g_z5 rfl rfl | exact x_rb g_z5 rfl rfl | exact ⟨by omega, by omega⟩))
      have f_s16 : FL [4133, 4136, 4132, 4134, 4135, 5120, 5184, 5248] s0 s16 := by rw [e_s16]; exact f_s2.up (show 4133 ∈ [4133, 4136, 4132, 4134, 4135, 5120, 5184, 5248] from by decide +kernel)
      have q17 : s16 256 34 = z4 := by rw [e_s16, x_up_i (by decide)]; exact e_z4.symm
      have q18 : s16 256 38 = z5 := by rw [e_s16, x_up_i (by decide)]; exact e_z5.symm
      have q19 : s16 256 36 = z5 := by rw [e_s16]; exact x_up_same
      have Ra_s16 : JRc s16 a := by rw [e_s16]; exact JRc.up Ra_s2 (show 4133 ∉ [5120, 5184] from by decide +kernel)
      refine x_A k186_43 (fun _ => rfl) ?_
      refine x_istore k186_44 (ls' := [(4, vi 0), (3, vi z6), (0, .ref 256), (1, vi a), (2, vi b)]) (by decide) rfl ?_
      refine x_A k186_46 (fun _ => rfl) ?_
      refine x_if_ne k186_47 (t := 60) rfl (by first | exact x_rbe e_z6 g_z6 rfl rfl | exact x_rb g_z6 rfl rfl | exact ⟨by omega, by omega⟩) (fun c20 => ?_) (fun c20 => ?_)
      · skip
        refine x_A k186_60 (fun _ => rfl) ?_
        refine x_A k186_61 (fun _ => rfl) ?_
        refine x_ic_ge k186_62 (t := 76) rfl (by first | exact x_rbe e_z6 g_z6 rfl rfl | exact x_rb g_z6 rfl rfl | exact ⟨by omega, by omega⟩) ⟨by decide, by decide⟩ (fun c21 => ?_) (fun c21 => ?_)
        · skip
          refine x_A k186_76 (fun _ => rfl) ?_
          refine x_A k186_77 (fun _ => rfl) ?_
          refine x_ic_ne k186_78 (t := 93) rfl (by first | exact x_rbe e_z6 g_z6 rfl rfl | exact x_rb g_z6 rfl rfl | exact ⟨by omega, by omega⟩) ⟨by decide, by decide⟩ (fun c22 => ?_) (fun c22 => ?_)
          · skip
            refine x_A k186_93 (fun _ => rfl) ?_
            refine x_A k186_94 (fun _ => rfl) ?_
            refine x_A k186_95 (fun _ => rfl) ?_
            refine x_getI k186_96 (f := 17) rfl (q := 256) (n := 62) (kd := 15) ⟨by decide, rfl⟩ (by decide) rfl ?_
            refine x_top (fun z23 e_z23 => ?_)
            have g_z23 : (0 : Int) ≤ s16 256 17 ∧ s16 256 17 ≤ 8 := hG_s16 256 17
            refine x_A k186_99 (fun _ => rfl) ?_
            refine x_isub k186_100 ?_
            refine x_top (fun z24 e_z24 => ?_)
            refine x_A k186_101 (fun _ => rfl) ?_
            refine x_A k186_102 (fun _ => rfl) ?_
            refine x_callV k186_103 (y := 180) (n := 4) (w0 := 0) (w1 := 4) (as := [vi 0, vi z24, vi 2, vi 3]) (rest := []) (by decide +kernel) (q := 256) (nq := 62) (kq := 15) ⟨by decide, rfl⟩ rfl rfl rfl rfl (xe_mono (C_X11_readNumber_256 s16 hG_s16 0 ⟨by decide, by decide⟩ z24 (by first | exact x_rbe e_z24 g_z24 rfl rfl | exact x_rb g_z24 rfl rfl | exact ⟨by omega, by omega⟩) 2 ⟨by decide, by decide⟩ 3 ⟨by decide, by decide⟩) ?_)
            rintro s26 v ⟨hG_s26, t_s26, z25, rfl, g_z25, xp_z25⟩
            have f_s26 : FL [4133, 4136, 4132, 4134, 4135, 5120, 5184, 5248] s0 s26 := f_s16.tr t_s26 (by decide +kernel)
            have q27 : s26 256 34 = z4 := (t_s26 256 34 (show 4131 ∉ [4133, 4136, 4132] from by decide +kernel)).trans q17
            have q28 : s26 256 38 = z5 := (t_s26 256 38 (show 4135 ∉ [4133, 4136, 4132] from by decide +kernel)).trans q18
            have q29 : s26 256 17 = z23 := (t_s26 256 17 (show 4114 ∉ [4133, 4136, 4132] from by decide +kernel)).trans e_z23.symm
            have Ra_s26 : JRc s26 a := JRc.fl Ra_s16 t_s26 (by decide +kernel)
            obtain ⟨z30, e_z30⟩ : ∃ z, z = s26 256 36 := ⟨_, rfl⟩
            have g_z30 : (0 : Int) ≤ s26 256 36 ∧ s26 256 36 ≤ 160 := hG_s26 256 36
            obtain ⟨z31, e_z31⟩ : ∃ z, z = s26 256 39 := ⟨_, rfl⟩
            have g_z31 : (0 : Int) ≤ s26 256 39 ∧ s26 256 39 ≤ 1100000 := hG_s26 256 39
            show xe none 186 106 [(4, vi 0), (3, vi z6), (0, .ref 256), (1, vi a), (2, vi b)] [vi z25] s26 0 0 _
            refine x_istore k186_106 (ls' := [(4, vi z25), (3, vi z6), (0, .ref 256), (1, vi a), (2, vi b)]) (by decide) rfl ?_
            refine x_A k186_108 (fun _ => rfl) ?_
            refine x_getR k186_109 (f := 22) rfl (q := 256) (n := 62) (kd := 15) ⟨by decide, rfl⟩ (q2 := 273) (by decide) rfl ?_
            refine x_A k186_112 (fun _ => rfl) ?_
            refine x_A k186_113 (fun _ => rfl) ?_
            refine x_getI k186_114 (f := 39) rfl (q := 256) (n := 62) (kd := 15) ⟨by decide, rfl⟩ (by decide) rfl ?_
            rw [e_z31.symm]
            refine x_iast k186_117 (q := 273) (n := 72) ⟨by decide, rfl⟩ (by decide) (by first | exact x_rbl b_a rfl rfl | exact ⟨by omega, by omega⟩) ?_
            refine x_nh (fun s32 e_s32 => ?_)
            have hG_s32 : GI s32 := by rw [e_s32]; exact hG_s26.up (show (-2147483648) ≤ z31 ∧ z31 ≤ 2147483647 from (by first | exact x_rbe e_z31 g_z31 rfl rfl | exact x_rb g_z31 rfl rfl | exact ⟨by omega, by omega⟩))
            have f_s32 : FL [4133, 4136, 4132, 4134, 4135, 5120, 5184, 5248] s0 s32 := by rw [e_s32]; exact f_s26.up (show 5184 ∈ [4133, 4136, 4132, 4134, 4135, 5120, 5184, 5248] from by decide +kernel)
            have q33 : s32 256 34 = z4 := by rw [e_s32, x_up_q (by decide)]; exact q27
            have q34 : s32 256 38 = z5 := by rw [e_s32, x_up_q (by decide)]; exact q28
            have q35 : s32 256 17 = z23 := by rw [e_s32, x_up_q (by decide)]; exact q29
            have q36 : s32 256 36 = z30 := by rw [e_s32, x_up_q (by decide)]; exact e_z30.symm
            have q37 : s32 256 39 = z31 := by rw [e_s32, x_up_q (by decide)]; exact e_z31.symm
            have q38 : s32 273 a.toNat = z31 := by rw [e_s32]; exact x_up_same
            have Ra_s32 : JRc s32 a := by rw [e_s32]; exact JRc.st Ra_s26 (by omega)
            refine x_A k186_118 (fun _ => rfl) ?_
            refine x_getR k186_119 (f := 23) rfl (q := 256) (n := 62) (kd := 15) ⟨by decide, rfl⟩ (q2 := 274) (by decide) rfl ?_
            refine x_A k186_122 (fun _ => rfl) ?_
            refine x_A k186_123 (fun _ => rfl) ?_
            refine x_iast k186_124 (q := 274) (n := 72) ⟨by decide, rfl⟩ (by decide) (by first | exact x_rbl b_a rfl rfl | exact ⟨by omega, by omega⟩) ?_
            refine x_nh (fun s39 e_s39 => ?_)
            have hG_s39 : GI s39 := by rw [e_s39]; exact hG_s32.up (show (-2147483648) ≤ 0 ∧ 0 ≤ 2147483647 from ⟨by decide, by decide⟩)
            have f_s39 : FL [4133, 4136, 4132, 4134, 4135, 5120, 5184, 5248] s0 s39 := by rw [e_s39]; exact f_s32.up (show 5248 ∈ [4133, 4136, 4132, 4134, 4135, 5120, 5184, 5248] from by decide +kernel)
            have q40 : s39 256 34 = z4 := by rw [e_s39, x_up_q (by decide)]; exact q33
            have q41 : s39 256 38 = z5 := by rw [e_s39, x_up_q (by decide)]; exact q34
            have q42 : s39 256 17 = z23 := by rw [e_s39, x_up_q (by decide)]; exact q35
            have q43 : s39 256 36 = z30 := by rw [e_s39, x_up_q (by decide)]; exact q36
            have q44 : s39 256 39 = z31 := by rw [e_s39, x_up_q (by decide)]; exact q37
            have q45 : s39 273 a.toNat = z31 := by rw [e_s39, x_up_q (by first | decide | omega)]; exact q38
            have q46 : s39 274 a.toNat = 0 := by rw [e_s39]; exact x_up_same
            have Ra_s39 : JRc s39 a := by rw [e_s39]; exact JRc.up Ra_s32 (show 5248 ∉ [5120, 5184] from by decide +kernel)
            refine x_A k186_125 (fun _ => rfl) ?_
            refine x_if_le k186_127 (t := 133) rfl (by first | exact x_rbe e_z25 g_z25 rfl rfl | exact x_rb g_z25 rfl rfl | exact ⟨by omega, by omega⟩) (fun c47 => ?_) (fun c47 => ?_)
            · skip
              refine x_A k186_133 (fun _ => rfl) ?_
              refine x_callV k186_134 (y := 176) (n := 0) (w0 := 0) (w1 := 0) (as := []) (rest := []) (by decide +kernel) (q := 256) (nq := 62) (kq := 15) ⟨by decide, rfl⟩ rfl rfl rfl rfl (xe_mono (C_X11_here_256 s39 hG_s39) ?_)
              rintro s49 v ⟨hG_s49, t_s49, z48, rfl, g_z48, xp_z48⟩
              have f_s49 : FL [4133, 4136, 4132, 4134, 4135, 5120, 5184, 5248] s0 s49 := f_s39.tr t_s49 (by decide +kernel)
              have q50 : s49 256 34 = z4 := (t_s49 256 34 (show 4131 ∉ [4133] from by decide +kernel)).trans q40
              have q51 : s49 256 38 = z5 := (t_s49 256 38 (show 4135 ∉ [4133] from by decide +kernel)).trans q41
              have q52 : s49 256 17 = z23 := (t_s49 256 17 (show 4114 ∉ [4133] from by decide +kernel)).trans q42
              have q53 : s49 256 39 = z31 := (t_s49 256 39 (show 4136 ∉ [4133] from by decide +kernel)).trans q44
              have q54 : s49 273 a.toNat = z31 := (t_s49 273 a.toNat (show 5184 ∉ [4133] from by decide +kernel)).trans q45
              have q55 : s49 274 a.toNat = 0 := (t_s49 274 a.toNat (show 5248 ∉ [4133] from by decide +kernel)).trans q46
              have Ra_s49 : JRc s49 a := JRc.fl Ra_s39 t_s49 (by decide +kernel)
              obtain ⟨z56, e_z56⟩ : ∃ z, z = s49 256 36 := ⟨_, rfl⟩
              have g_z56 : (0 : Int) ≤ s49 256 36 ∧ s49 256 36 ≤ 160 := hG_s49 256 36
              show xe none 186 137 [(4, vi z25), (3, vi z6), (0, .ref 256), (1, vi a), (2, vi b)] [vi z48] s49 0 0 _
              refine x_bipush k186_137 (by decide +kernel) ?_
              refine x_ic_eq k186_139 (t := 152) rfl (by first | exact x_rbe e_z48 g_z48 rfl rfl | exact x_rb g_z48 rfl rfl | exact ⟨by omega, by omega⟩) ⟨by decide, by decide⟩ (fun c57 => ?_) (fun c57 => ?_)
              · skip
                refine x_A k186_152 (fun _ => rfl) ?_
                refine x_A k186_153 (fun _ => rfl) ?_
                refine x_getI k186_154 (f := 36) rfl (q := 256) (n := 62) (kd := 15) ⟨by decide, rfl⟩ (by decide) rfl ?_
                rw [e_z56.symm]
                refine x_A k186_157 (fun _ => rfl) ?_
                refine x_iadd k186_158 ?_
                refine x_top (fun z58 e_z58 => ?_)
                refine x_putI k186_159 (f := 36) rfl (q := 256) (n := 62) (kd := 15) ⟨by decide, rfl⟩ rfl rfl rfl ?_
                refine x_nh (fun s59 e_s59 => ?_)
                have hG_s59 : GI s59 := by rw [e_s59]; exact hG_s49.up (show 0 ≤ z58 ∧ z58 ≤ 160 from (by first | exact x_rbe e_z58 g_z58 rfl rfl | exact x_rb g_z58 rfl rfl | exact ⟨by omega, by omega⟩))
                have f_s59 : FL [4133, 4136, 4132, 4134, 4135, 5120, 5184, 5248] s0 s59 := by rw [e_s59]; exact f_s49.up (show 4133 ∈ [4133, 4136, 4132, 4134, 4135, 5120, 5184, 5248] from by decide +kernel)
                have q60 : s59 256 34 = z4 := by rw [e_s59, x_up_i (by decide)]; exact q50
                have q61 : s59 256 38 = z5 := by rw [e_s59, x_up_i (by decide)]; exact q51
                have q62 : s59 256 17 = z23 := by rw [e_s59, x_up_i (by decide)]; exact q52
                have q63 : s59 256 39 = z31 := by rw [e_s59, x_up_i (by decide)]; exact q53
                have q64 : s59 256 36 = z58 := by rw [e_s59]; exact x_up_same
                have q65 : s59 273 a.toNat = z31 := by rw [e_s59, x_up_q (by first | decide | omega)]; exact q54
                have q66 : s59 274 a.toNat = 0 := by rw [e_s59, x_up_q (by first | decide | omega)]; exact q55
                have Ra_s59 : JRc s59 a := by rw [e_s59]; exact JRc.up Ra_s49 (show 4133 ∉ [5120, 5184] from by decide +kernel)
                refine x_A k186_162 (fun _ => rfl) ?_
                refine x_getR k186_163 (f := 21) rfl (q := 256) (n := 62) (kd := 15) ⟨by decide, rfl⟩ (q2 := 272) (by decide) rfl ?_
                refine x_A k186_166 (fun _ => rfl) ?_
                refine x_A k186_167 (fun _ => rfl) ?_
                refine x_iast k186_168 (q := 272) (n := 72) ⟨by decide, rfl⟩ (by decide) (by first | exact x_rbl b_a rfl rfl | exact ⟨by omega, by omega⟩) ?_
                refine x_nh (fun s67 e_s67 => ?_)
                have hG_s67 : GI s67 := by rw [e_s67]; exact hG_s59.up (show 0 ≤ z6 ∧ z6 ≤ 5 from (by first | exact x_rbe e_z6 g_z6 rfl rfl | exact x_rb g_z6 rfl rfl | exact ⟨by omega, by omega⟩))
                have f_s67 : FL [4133, 4136, 4132, 4134, 4135, 5120, 5184, 5248] s0 s67 := by rw [e_s67]; exact f_s59.up (show 5120 ∈ [4133, 4136, 4132, 4134, 4135, 5120, 5184, 5248] from by decide +kernel)
                have q68 : s67 256 34 = z4 := by rw [e_s67, x_up_q (by decide)]; exact q60
                have q69 : s67 256 38 = z5 := by rw [e_s67, x_up_q (by decide)]; exact q61
                have q70 : s67 256 17 = z23 := by rw [e_s67, x_up_q (by decide)]; exact q62
                have q71 : s67 256 39 = z31 := by rw [e_s67, x_up_q (by decide)]; exact q63
                have q72 : s67 256 36 = z58 := by rw [e_s67, x_up_q (by decide)]; exact q64
                have q73 : s67 273 a.toNat = z31 := by rw [e_s67, x_up_q (by first | decide | omega)]; exact q65
                have q74 : s67 274 a.toNat = 0 := by rw [e_s67, x_up_q (by first | decide | omega)]; exact q66
                have q75 : s67 272 a.toNat = z6 := by rw [e_s67]; exact x_up_same
                have Ra_s67 : JRc s67 a := by rw [e_s67]; exact JRc.st Ra_s59 (by omega)
                refine x_A k186_169 (fun _ => rfl) ?_
                exact x_iret k186_170 rfl ⟨hG_s67, f_s67, 0, rfl, ⟨by decide, by decide⟩, ⟨fun hb => by omega, fun _ => JRc.add Ra_s67 (by omega) (fun hk => by rw [q75] at hk; rw [q73]; omega)⟩, Ra_s67⟩
              · skip
                refine x_A k186_142 (fun _ => rfl) ?_
                refine x_A k186_143 (fun _ => rfl) ?_
                refine x_A k186_144 (fun _ => rfl) ?_
                refine x_getI k186_145 (f := 36) rfl (q := 256) (n := 62) (kd := 15) ⟨by decide, rfl⟩ (by decide) rfl ?_
                rw [e_z56.symm]
                refine x_callV k186_148 (y := 177) (n := 2) (w0 := 0) (w1 := 2) (as := [vi 1, vi z56]) (rest := []) (by decide +kernel) (q := 256) (nq := 62) (kq := 15) ⟨by decide, rfl⟩ rfl rfl rfl rfl (xe_mono (C_X11_fails_256 s49 hG_s49 1 ⟨by decide, by decide⟩ z56 (by first | exact x_rbe e_z56 g_z56 rfl rfl | exact x_rb g_z56 rfl rfl | exact ⟨by omega, by omega⟩)) ?_)
                rintro s77 v ⟨hG_s77, t_s77, z76, rfl, g_z76, xp_z76⟩
                have f_s77 : FL [4133, 4136, 4132, 4134, 4135, 5120, 5184, 5248] s0 s77 := f_s49.tr t_s77 (by decide +kernel)
                have q78 : s77 256 34 = z4 := (t_s77 256 34 (show 4131 ∉ [4132] from by decide +kernel)).trans q50
                have q79 : s77 256 38 = z5 := (t_s77 256 38 (show 4135 ∉ [4132] from by decide +kernel)).trans q51
                have q80 : s77 256 17 = z23 := (t_s77 256 17 (show 4114 ∉ [4132] from by decide +kernel)).trans q52
                have q81 : s77 256 39 = z31 := (t_s77 256 39 (show 4136 ∉ [4132] from by decide +kernel)).trans q53
                have q82 : s77 256 36 = z56 := (t_s77 256 36 (show 4133 ∉ [4132] from by decide +kernel)).trans e_z56.symm
                have q83 : s77 273 a.toNat = z31 := (t_s77 273 a.toNat (show 5184 ∉ [4132] from by decide +kernel)).trans q54
                have q84 : s77 274 a.toNat = 0 := (t_s77 274 a.toNat (show 5248 ∉ [4132] from by decide +kernel)).trans q55
                have Ra_s77 : JRc s77 a := JRc.fl Ra_s49 t_s77 (by decide +kernel)
                show xe none 186 151 [(4, vi z25), (3, vi z6), (0, .ref 256), (1, vi a), (2, vi b)] [vi z76] s77 0 0 _
                exact x_iret k186_151 rfl ⟨hG_s77, f_s77, z76, rfl, (by first | exact x_rbe e_z76 g_z76 rfl rfl | exact x_rb g_z76 rfl rfl | exact ⟨by omega, by omega⟩), ⟨fun _ => by omega, fun hz => by exfalso; omega⟩, Ra_s77⟩
            · skip
              refine x_A k186_130 (fun _ => rfl) ?_
              exact x_iret k186_132 rfl ⟨hG_s39, f_s39, z25, rfl, (by first | exact x_rbe e_z25 g_z25 rfl rfl | exact x_rb g_z25 rfl rfl | exact ⟨by omega, by omega⟩), ⟨fun _ => by omega, fun hz => by exfalso; omega⟩, Ra_s39⟩
          · skip
            refine x_A k186_81 (fun _ => rfl) ?_
            refine x_A k186_82 (fun _ => rfl) ?_
            refine x_bipush k186_83 (by decide +kernel) ?_
            refine x_A k186_85 (fun _ => rfl) ?_
            refine x_A k186_86 (fun _ => rfl) ?_
            refine x_callV k186_87 (y := 180) (n := 4) (w0 := 0) (w1 := 4) (as := [vi 1, vi 20, vi 2, vi 2]) (rest := []) (by decide +kernel) (q := 256) (nq := 62) (kq := 15) ⟨by decide, rfl⟩ rfl rfl rfl rfl (xe_mono (C_X11_readNumber_256 s16 hG_s16 1 ⟨by decide, by decide⟩ 20 ⟨by decide, by decide⟩ 2 ⟨by decide, by decide⟩ 2 ⟨by decide, by decide⟩) ?_)
            rintro s86 v ⟨hG_s86, t_s86, z85, rfl, g_z85, xp_z85⟩
            have f_s86 : FL [4133, 4136, 4132, 4134, 4135, 5120, 5184, 5248] s0 s86 := f_s16.tr t_s86 (by decide +kernel)
            have q87 : s86 256 34 = z4 := (t_s86 256 34 (show 4131 ∉ [4133, 4136, 4132] from by decide +kernel)).trans q17
            have q88 : s86 256 38 = z5 := (t_s86 256 38 (show 4135 ∉ [4133, 4136, 4132] from by decide +kernel)).trans q18
            have Ra_s86 : JRc s86 a := JRc.fl Ra_s16 t_s86 (by decide +kernel)
            obtain ⟨z89, e_z89⟩ : ∃ z, z = s86 256 36 := ⟨_, rfl⟩
            have g_z89 : (0 : Int) ≤ s86 256 36 ∧ s86 256 36 ≤ 160 := hG_s86 256 36
            obtain ⟨z90, e_z90⟩ : ∃ z, z = s86 256 39 := ⟨_, rfl⟩
            have g_z90 : (0 : Int) ≤ s86 256 39 ∧ s86 256 39 ≤ 1100000 := hG_s86 256 39
            show xe none 186 90 [(4, vi 0), (3, vi z6), (0, .ref 256), (1, vi a), (2, vi b)] [vi z85] s86 0 0 _
            refine x_goto k186_90 (t := 106) rfl ?_
            refine x_istore k186_106 (ls' := [(4, vi z85), (3, vi z6), (0, .ref 256), (1, vi a), (2, vi b)]) (by decide) rfl ?_
            refine x_A k186_108 (fun _ => rfl) ?_
            refine x_getR k186_109 (f := 22) rfl (q := 256) (n := 62) (kd := 15) ⟨by decide, rfl⟩ (q2 := 273) (by decide) rfl ?_
            refine x_A k186_112 (fun _ => rfl) ?_
            refine x_A k186_113 (fun _ => rfl) ?_
            refine x_getI k186_114 (f := 39) rfl (q := 256) (n := 62) (kd := 15) ⟨by decide, rfl⟩ (by decide) rfl ?_
            rw [e_z90.symm]
            refine x_iast k186_117 (q := 273) (n := 72) ⟨by decide, rfl⟩ (by decide) (by first | exact x_rbl b_a rfl rfl | exact ⟨by omega, by omega⟩) ?_
            refine x_nh (fun s91 e_s91 => ?_)
            have hG_s91 : GI s91 := by rw [e_s91]; exact hG_s86.up (show (-2147483648) ≤ z90 ∧ z90 ≤ 2147483647 from (by first | exact x_rbe e_z90 g_z90 rfl rfl | exact x_rb g_z90 rfl rfl | exact ⟨by omega, by omega⟩))
            have f_s91 : FL [4133, 4136, 4132, 4134, 4135, 5120, 5184, 5248] s0 s91 := by rw [e_s91]; exact f_s86.up (show 5184 ∈ [4133, 4136, 4132, 4134, 4135, 5120, 5184, 5248] from by decide +kernel)
            have q92 : s91 256 34 = z4 := by rw [e_s91, x_up_q (by decide)]; exact q87
            have q93 : s91 256 38 = z5 := by rw [e_s91, x_up_q (by decide)]; exact q88
            have q94 : s91 256 36 = z89 := by rw [e_s91, x_up_q (by decide)]; exact e_z89.symm
            have q95 : s91 256 39 = z90 := by rw [e_s91, x_up_q (by decide)]; exact e_z90.symm
            have q96 : s91 273 a.toNat = z90 := by rw [e_s91]; exact x_up_same
            have Ra_s91 : JRc s91 a := by rw [e_s91]; exact JRc.st Ra_s86 (by omega)
            refine x_A k186_118 (fun _ => rfl) ?_
            refine x_getR k186_119 (f := 23) rfl (q := 256) (n := 62) (kd := 15) ⟨by decide, rfl⟩ (q2 := 274) (by decide) rfl ?_
            refine x_A k186_122 (fun _ => rfl) ?_
            refine x_A k186_123 (fun _ => rfl) ?_
            refine x_iast k186_124 (q := 274) (n := 72) ⟨by decide, rfl⟩ (by decide) (by first | exact x_rbl b_a rfl rfl | exact ⟨by omega, by omega⟩) ?_
            refine x_nh (fun s97 e_s97 => ?_)
            have hG_s97 : GI s97 := by rw [e_s97]; exact hG_s91.up (show (-2147483648) ≤ 0 ∧ 0 ≤ 2147483647 from ⟨by decide, by decide⟩)
            have f_s97 : FL [4133, 4136, 4132, 4134, 4135, 5120, 5184, 5248] s0 s97 := by rw [e_s97]; exact f_s91.up (show 5248 ∈ [4133, 4136, 4132, 4134, 4135, 5120, 5184, 5248] from by decide +kernel)
            have q98 : s97 256 34 = z4 := by rw [e_s97, x_up_q (by decide)]; exact q92
            have q99 : s97 256 38 = z5 := by rw [e_s97, x_up_q (by decide)]; exact q93
            have q100 : s97 256 36 = z89 := by rw [e_s97, x_up_q (by decide)]; exact q94
            have q101 : s97 256 39 = z90 := by rw [e_s97, x_up_q (by decide)]; exact q95
            have q102 : s97 273 a.toNat = z90 := by rw [e_s97, x_up_q (by first | decide | omega)]; exact q96
            have q103 : s97 274 a.toNat = 0 := by rw [e_s97]; exact x_up_same
            have Ra_s97 : JRc s97 a := by rw [e_s97]; exact JRc.up Ra_s91 (show 5248 ∉ [5120, 5184] from by decide +kernel)
            refine x_A k186_125 (fun _ => rfl) ?_
            refine x_if_le k186_127 (t := 133) rfl (by first | exact x_rbe e_z85 g_z85 rfl rfl | exact x_rb g_z85 rfl rfl | exact ⟨by omega, by omega⟩) (fun c104 => ?_) (fun c104 => ?_)
            · skip
              refine x_A k186_133 (fun _ => rfl) ?_
              refine x_callV k186_134 (y := 176) (n := 0) (w0 := 0) (w1 := 0) (as := []) (rest := []) (by decide +kernel) (q := 256) (nq := 62) (kq := 15) ⟨by decide, rfl⟩ rfl rfl rfl rfl (xe_mono (C_X11_here_256 s97 hG_s97) ?_)
              rintro s106 v ⟨hG_s106, t_s106, z105, rfl, g_z105, xp_z105⟩
              have f_s106 : FL [4133, 4136, 4132, 4134, 4135, 5120, 5184, 5248] s0 s106 := f_s97.tr t_s106 (by decide +kernel)
              have q107 : s106 256 34 = z4 := (t_s106 256 34 (show 4131 ∉ [4133] from by decide +kernel)).trans q98
              have q108 : s106 256 38 = z5 := (t_s106 256 38 (show 4135 ∉ [4133] from by decide +kernel)).trans q99
              have q109 : s106 256 39 = z90 := (t_s106 256 39 (show 4136 ∉ [4133] from by decide +kernel)).trans q101
              have q110 : s106 273 a.toNat = z90 := (t_s106 273 a.toNat (show 5184 ∉ [4133] from by decide +kernel)).trans q102
              have q111 : s106 274 a.toNat = 0 := (t_s106 274 a.toNat (show 5248 ∉ [4133] from by decide +kernel)).trans q103
              have Ra_s106 : JRc s106 a := JRc.fl Ra_s97 t_s106 (by decide +kernel)
              obtain ⟨z112, e_z112⟩ : ∃ z, z = s106 256 36 := ⟨_, rfl⟩
              have g_z112 : (0 : Int) ≤ s106 256 36 ∧ s106 256 36 ≤ 160 := hG_s106 256 36
              show xe none 186 137 [(4, vi z85), (3, vi z6), (0, .ref 256), (1, vi a), (2, vi b)] [vi z105] s106 0 0 _
              refine x_bipush k186_137 (by decide +kernel) ?_
              refine x_ic_eq k186_139 (t := 152) rfl (by first | exact x_rbe e_z105 g_z105 rfl rfl | exact x_rb g_z105 rfl rfl | exact ⟨by omega, by omega⟩) ⟨by decide, by decide⟩ (fun c113 => ?_) (fun c113 => ?_)
              · skip
                refine x_A k186_152 (fun _ => rfl) ?_
                refine x_A k186_153 (fun _ => rfl) ?_
                refine x_getI k186_154 (f := 36) rfl (q := 256) (n := 62) (kd := 15) ⟨by decide, rfl⟩ (by decide) rfl ?_
                rw [e_z112.symm]
                refine x_A k186_157 (fun _ => rfl) ?_
                refine x_iadd k186_158 ?_
                refine x_top (fun z114 e_z114 => ?_)
                refine x_putI k186_159 (f := 36) rfl (q := 256) (n := 62) (kd := 15) ⟨by decide, rfl⟩ rfl rfl rfl ?_
                refine x_nh (fun s115 e_s115 => ?_)
                have hG_s115 : GI s115 := by rw [e_s115]; exact hG_s106.up (show 0 ≤ z114 ∧ z114 ≤ 160 from (by first | exact x_rbe e_z114 g_z114 rfl rfl | exact x_rb g_z114 rfl rfl | exact ⟨by omega, by omega⟩))
                have f_s115 : FL [4133, 4136, 4132, 4134, 4135, 5120, 5184, 5248] s0 s115 := by rw [e_s115]; exact f_s106.up (show 4133 ∈ [4133, 4136, 4132, 4134, 4135, 5120, 5184, 5248] from by decide +kernel)
                have q116 : s115 256 34 = z4 := by rw [e_s115, x_up_i (by decide)]; exact q107
                have q117 : s115 256 38 = z5 := by rw [e_s115, x_up_i (by decide)]; exact q108
                have q118 : s115 256 39 = z90 := by rw [e_s115, x_up_i (by decide)]; exact q109
                have q119 : s115 256 36 = z114 := by rw [e_s115]; exact x_up_same
                have q120 : s115 273 a.toNat = z90 := by rw [e_s115, x_up_q (by first | decide | omega)]; exact q110
                have q121 : s115 274 a.toNat = 0 := by rw [e_s115, x_up_q (by first | decide | omega)]; exact q111
                have Ra_s115 : JRc s115 a := by rw [e_s115]; exact JRc.up Ra_s106 (show 4133 ∉ [5120, 5184] from by decide +kernel)
                refine x_A k186_162 (fun _ => rfl) ?_
                refine x_getR k186_163 (f := 21) rfl (q := 256) (n := 62) (kd := 15) ⟨by decide, rfl⟩ (q2 := 272) (by decide) rfl ?_
                refine x_A k186_166 (fun _ => rfl) ?_
                refine x_A k186_167 (fun _ => rfl) ?_
                refine x_iast k186_168 (q := 272) (n := 72) ⟨by decide, rfl⟩ (by decide) (by first | exact x_rbl b_a rfl rfl | exact ⟨by omega, by omega⟩) ?_
                refine x_nh (fun s122 e_s122 => ?_)
                have hG_s122 : GI s122 := by rw [e_s122]; exact hG_s115.up (show 0 ≤ z6 ∧ z6 ≤ 5 from (by first | exact x_rbe e_z6 g_z6 rfl rfl | exact x_rb g_z6 rfl rfl | exact ⟨by omega, by omega⟩))
                have f_s122 : FL [4133, 4136, 4132, 4134, 4135, 5120, 5184, 5248] s0 s122 := by rw [e_s122]; exact f_s115.up (show 5120 ∈ [4133, 4136, 4132, 4134, 4135, 5120, 5184, 5248] from by decide +kernel)
                have q123 : s122 256 34 = z4 := by rw [e_s122, x_up_q (by decide)]; exact q116
                have q124 : s122 256 38 = z5 := by rw [e_s122, x_up_q (by decide)]; exact q117
                have q125 : s122 256 39 = z90 := by rw [e_s122, x_up_q (by decide)]; exact q118
                have q126 : s122 256 36 = z114 := by rw [e_s122, x_up_q (by decide)]; exact q119
                have q127 : s122 273 a.toNat = z90 := by rw [e_s122, x_up_q (by first | decide | omega)]; exact q120
                have q128 : s122 274 a.toNat = 0 := by rw [e_s122, x_up_q (by first | decide | omega)]; exact q121
                have q129 : s122 272 a.toNat = z6 := by rw [e_s122]; exact x_up_same
                have Ra_s122 : JRc s122 a := by rw [e_s122]; exact JRc.st Ra_s115 (by omega)
                refine x_A k186_169 (fun _ => rfl) ?_
                exact x_iret k186_170 rfl ⟨hG_s122, f_s122, 0, rfl, ⟨by decide, by decide⟩, ⟨fun hb => by omega, fun _ => JRc.add Ra_s122 (by omega) (fun hk => by rw [q129] at hk; rw [q127]; omega)⟩, Ra_s122⟩
              · skip
                refine x_A k186_142 (fun _ => rfl) ?_
                refine x_A k186_143 (fun _ => rfl) ?_
                refine x_A k186_144 (fun _ => rfl) ?_
                refine x_getI k186_145 (f := 36) rfl (q := 256) (n := 62) (kd := 15) ⟨by decide, rfl⟩ (by decide) rfl ?_
                rw [e_z112.symm]
                refine x_callV k186_148 (y := 177) (n := 2) (w0 := 0) (w1 := 2) (as := [vi 1, vi z112]) (rest := []) (by decide +kernel) (q := 256) (nq := 62) (kq := 15) ⟨by decide, rfl⟩ rfl rfl rfl rfl (xe_mono (C_X11_fails_256 s106 hG_s106 1 ⟨by decide, by decide⟩ z112 (by first | exact x_rbe e_z112 g_z112 rfl rfl | exact x_rb g_z112 rfl rfl | exact ⟨by omega, by omega⟩)) ?_)
                rintro s131 v ⟨hG_s131, t_s131, z130, rfl, g_z130, xp_z130⟩
                have f_s131 : FL [4133, 4136, 4132, 4134, 4135, 5120, 5184, 5248] s0 s131 := f_s106.tr t_s131 (by decide +kernel)
                have q132 : s131 256 34 = z4 := (t_s131 256 34 (show 4131 ∉ [4132] from by decide +kernel)).trans q107
                have q133 : s131 256 38 = z5 := (t_s131 256 38 (show 4135 ∉ [4132] from by decide +kernel)).trans q108
                have q134 : s131 256 39 = z90 := (t_s131 256 39 (show 4136 ∉ [4132] from by decide +kernel)).trans q109
                have q135 : s131 256 36 = z112 := (t_s131 256 36 (show 4133 ∉ [4132] from by decide +kernel)).trans e_z112.symm
                have q136 : s131 273 a.toNat = z90 := (t_s131 273 a.toNat (show 5184 ∉ [4132] from by decide +kernel)).trans q110
                have q137 : s131 274 a.toNat = 0 := (t_s131 274 a.toNat (show 5248 ∉ [4132] from by decide +kernel)).trans q111
                have Ra_s131 : JRc s131 a := JRc.fl Ra_s106 t_s131 (by decide +kernel)
                show xe none 186 151 [(4, vi z85), (3, vi z6), (0, .ref 256), (1, vi a), (2, vi b)] [vi z130] s131 0 0 _
                exact x_iret k186_151 rfl ⟨hG_s131, f_s131, z130, rfl, (by first | exact x_rbe e_z130 g_z130 rfl rfl | exact x_rb g_z130 rfl rfl | exact ⟨by omega, by omega⟩), ⟨fun _ => by omega, fun hz => by exfalso; omega⟩, Ra_s131⟩
            · skip
              refine x_A k186_130 (fun _ => rfl) ?_
              exact x_iret k186_132 rfl ⟨hG_s97, f_s97, z85, rfl, (by first | exact x_rbe e_z85 g_z85 rfl rfl | exact x_rb g_z85 rfl rfl | exact ⟨by omega, by omega⟩), ⟨fun _ => by omega, fun hz => by exfalso; omega⟩, Ra_s97⟩
        · skip
          refine x_A k186_65 (fun _ => rfl) ?_
          refine x_A k186_66 (fun _ => rfl) ?_
          refine x_A k186_67 (fun _ => rfl) ?_
          refine x_callV k186_68 (y := 185) (n := 2) (w0 := 0) (w1 := 2) (as := [vi a, vi z6]) (rest := []) (by decide +kernel) (q := 256) (nq := 62) (kq := 15) ⟨by decide, rfl⟩ rfl rfl rfl rfl (xe_mono (C_X11_readPair_256 s16 hG_s16 a (by first | exact x_rb b_a rfl rfl | exact ⟨by omega, by omega⟩) z6 (by first | exact x_rbe e_z6 g_z6 rfl rfl | exact x_rb g_z6 rfl rfl | exact ⟨by omega, by omega⟩) Ra_s16) ?_)
          rintro s139 v ⟨hG_s139, t_s139, z138, rfl, g_z138, Ra_s139⟩
          have f_s139 : FL [4133, 4136, 4132, 4134, 4135, 5120, 5184, 5248] s0 s139 := f_s16.tr t_s139 (by decide +kernel)
          have q140 : s139 256 34 = z4 := (t_s139 256 34 (show 4131 ∉ [4133, 4136, 4132, 4134, 4135, 5184, 5248] from by decide +kernel)).trans q17
          show xe none 186 71 [(4, vi 0), (3, vi z6), (0, .ref 256), (1, vi a), (2, vi b)] [vi z138] s139 0 0 _
          obtain ⟨z141, e_z141⟩ : ∃ z, z = s139 273 a.toNat := ⟨_, rfl⟩
          have g_z141 : (-2147483648) ≤ s139 273 a.toNat ∧ s139 273 a.toNat ≤ 2147483647 := hG_s139 273 a.toNat
          refine x_istore k186_71 (ls' := [(4, vi z138), (3, vi z6), (0, .ref 256), (1, vi a), (2, vi b)]) (by decide) rfl ?_
          refine x_goto k186_73 (t := 125) rfl ?_
          refine x_A k186_125 (fun _ => rfl) ?_
          refine x_if_le k186_127 (t := 133) rfl (by first | exact x_rbe e_z138 g_z138 rfl rfl | exact x_rb g_z138 rfl rfl | exact ⟨by omega, by omega⟩) (fun c142 => ?_) (fun c142 => ?_)
          · skip
            refine x_A k186_133 (fun _ => rfl) ?_
            refine x_callV k186_134 (y := 176) (n := 0) (w0 := 0) (w1 := 0) (as := []) (rest := []) (by decide +kernel) (q := 256) (nq := 62) (kq := 15) ⟨by decide, rfl⟩ rfl rfl rfl rfl (xe_mono (C_X11_here_256 s139 hG_s139) ?_)
            rintro s144 v ⟨hG_s144, t_s144, z143, rfl, g_z143, xp_z143⟩
            have f_s144 : FL [4133, 4136, 4132, 4134, 4135, 5120, 5184, 5248] s0 s144 := f_s139.tr t_s144 (by decide +kernel)
            have q145 : s144 256 34 = z4 := (t_s144 256 34 (show 4131 ∉ [4133] from by decide +kernel)).trans q140
            have q146 : s144 273 a.toNat = z141 := (t_s144 273 a.toNat (show 5184 ∉ [4133] from by decide +kernel)).trans e_z141.symm
            have Ra_s144 : JRc s144 a := JRc.fl Ra_s139 t_s144 (by decide +kernel)
            obtain ⟨z147, e_z147⟩ : ∃ z, z = s144 256 36 := ⟨_, rfl⟩
            have g_z147 : (0 : Int) ≤ s144 256 36 ∧ s144 256 36 ≤ 160 := hG_s144 256 36
            show xe none 186 137 [(4, vi z138), (3, vi z6), (0, .ref 256), (1, vi a), (2, vi b)] [vi z143] s144 0 0 _
            refine x_bipush k186_137 (by decide +kernel) ?_
            refine x_ic_eq k186_139 (t := 152) rfl (by first | exact x_rbe e_z143 g_z143 rfl rfl | exact x_rb g_z143 rfl rfl | exact ⟨by omega, by omega⟩) ⟨by decide, by decide⟩ (fun c148 => ?_) (fun c148 => ?_)
            · skip
              refine x_A k186_152 (fun _ => rfl) ?_
              refine x_A k186_153 (fun _ => rfl) ?_
              refine x_getI k186_154 (f := 36) rfl (q := 256) (n := 62) (kd := 15) ⟨by decide, rfl⟩ (by decide) rfl ?_
              rw [e_z147.symm]
              refine x_A k186_157 (fun _ => rfl) ?_
              refine x_iadd k186_158 ?_
              refine x_top (fun z149 e_z149 => ?_)
              refine x_putI k186_159 (f := 36) rfl (q := 256) (n := 62) (kd := 15) ⟨by decide, rfl⟩ rfl rfl rfl ?_
              refine x_nh (fun s150 e_s150 => ?_)
              have hG_s150 : GI s150 := by rw [e_s150]; exact hG_s144.up (show 0 ≤ z149 ∧ z149 ≤ 160 from (by first | exact x_rbe e_z149 g_z149 rfl rfl | exact x_rb g_z149 rfl rfl | exact ⟨by omega, by omega⟩))
              have f_s150 : FL [4133, 4136, 4132, 4134, 4135, 5120, 5184, 5248] s0 s150 := by rw [e_s150]; exact f_s144.up (show 4133 ∈ [4133, 4136, 4132, 4134, 4135, 5120, 5184, 5248] from by decide +kernel)
              have q151 : s150 256 34 = z4 := by rw [e_s150, x_up_i (by decide)]; exact q145
              have q152 : s150 256 36 = z149 := by rw [e_s150]; exact x_up_same
              have q153 : s150 273 a.toNat = z141 := by rw [e_s150, x_up_q (by first | decide | omega)]; exact q146
              have Ra_s150 : JRc s150 a := by rw [e_s150]; exact JRc.up Ra_s144 (show 4133 ∉ [5120, 5184] from by decide +kernel)
              refine x_A k186_162 (fun _ => rfl) ?_
              refine x_getR k186_163 (f := 21) rfl (q := 256) (n := 62) (kd := 15) ⟨by decide, rfl⟩ (q2 := 272) (by decide) rfl ?_
              refine x_A k186_166 (fun _ => rfl) ?_
              refine x_A k186_167 (fun _ => rfl) ?_
              refine x_iast k186_168 (q := 272) (n := 72) ⟨by decide, rfl⟩ (by decide) (by first | exact x_rbl b_a rfl rfl | exact ⟨by omega, by omega⟩) ?_
              refine x_nh (fun s154 e_s154 => ?_)
              have hG_s154 : GI s154 := by rw [e_s154]; exact hG_s150.up (show 0 ≤ z6 ∧ z6 ≤ 5 from (by first | exact x_rbe e_z6 g_z6 rfl rfl | exact x_rb g_z6 rfl rfl | exact ⟨by omega, by omega⟩))
              have f_s154 : FL [4133, 4136, 4132, 4134, 4135, 5120, 5184, 5248] s0 s154 := by rw [e_s154]; exact f_s150.up (show 5120 ∈ [4133, 4136, 4132, 4134, 4135, 5120, 5184, 5248] from by decide +kernel)
              have q155 : s154 256 34 = z4 := by rw [e_s154, x_up_q (by decide)]; exact q151
              have q156 : s154 256 36 = z149 := by rw [e_s154, x_up_q (by decide)]; exact q152
              have q157 : s154 273 a.toNat = z141 := by rw [e_s154, x_up_q (by first | decide | omega)]; exact q153
              have q158 : s154 272 a.toNat = z6 := by rw [e_s154]; exact x_up_same
              have Ra_s154 : JRc s154 a := by rw [e_s154]; exact JRc.st Ra_s150 (by omega)
              refine x_A k186_169 (fun _ => rfl) ?_
              exact x_iret k186_170 rfl ⟨hG_s154, f_s154, 0, rfl, ⟨by decide, by decide⟩, ⟨fun hb => by omega, fun _ => JRc.add Ra_s154 (by omega) (fun hk => by rw [q158] at hk; rw [q157]; omega)⟩, Ra_s154⟩
            · skip
              refine x_A k186_142 (fun _ => rfl) ?_
              refine x_A k186_143 (fun _ => rfl) ?_
              refine x_A k186_144 (fun _ => rfl) ?_
              refine x_getI k186_145 (f := 36) rfl (q := 256) (n := 62) (kd := 15) ⟨by decide, rfl⟩ (by decide) rfl ?_
              rw [e_z147.symm]
              refine x_callV k186_148 (y := 177) (n := 2) (w0 := 0) (w1 := 2) (as := [vi 1, vi z147]) (rest := []) (by decide +kernel) (q := 256) (nq := 62) (kq := 15) ⟨by decide, rfl⟩ rfl rfl rfl rfl (xe_mono (C_X11_fails_256 s144 hG_s144 1 ⟨by decide, by decide⟩ z147 (by first | exact x_rbe e_z147 g_z147 rfl rfl | exact x_rb g_z147 rfl rfl | exact ⟨by omega, by omega⟩)) ?_)
              rintro s160 v ⟨hG_s160, t_s160, z159, rfl, g_z159, xp_z159⟩
              have f_s160 : FL [4133, 4136, 4132, 4134, 4135, 5120, 5184, 5248] s0 s160 := f_s144.tr t_s160 (by decide +kernel)
              have q161 : s160 256 34 = z4 := (t_s160 256 34 (show 4131 ∉ [4132] from by decide +kernel)).trans q145
              have q162 : s160 256 36 = z147 := (t_s160 256 36 (show 4133 ∉ [4132] from by decide +kernel)).trans e_z147.symm
              have q163 : s160 273 a.toNat = z141 := (t_s160 273 a.toNat (show 5184 ∉ [4132] from by decide +kernel)).trans q146
              have Ra_s160 : JRc s160 a := JRc.fl Ra_s144 t_s160 (by decide +kernel)
              show xe none 186 151 [(4, vi z138), (3, vi z6), (0, .ref 256), (1, vi a), (2, vi b)] [vi z159] s160 0 0 _
              exact x_iret k186_151 rfl ⟨hG_s160, f_s160, z159, rfl, (by first | exact x_rbe e_z159 g_z159 rfl rfl | exact x_rb g_z159 rfl rfl | exact ⟨by omega, by omega⟩), ⟨fun _ => by omega, fun hz => by exfalso; omega⟩, Ra_s160⟩
          · skip
            refine x_A k186_130 (fun _ => rfl) ?_
            exact x_iret k186_132 rfl ⟨hG_s139, f_s139, z138, rfl, (by first | exact x_rbe e_z138 g_z138 rfl rfl | exact x_rb g_z138 rfl rfl | exact ⟨by omega, by omega⟩), ⟨fun _ => by omega, fun hz => by exfalso; omega⟩, Ra_s139⟩
      · skip
        refine x_A k186_50 (fun _ => rfl) ?_
        refine x_A k186_51 (fun _ => rfl) ?_
        refine x_callV k186_52 (y := 184) (n := 1) (w0 := 0) (w1 := 1) (as := [vi a]) (rest := []) (by decide +kernel) (q := 256) (nq := 62) (kq := 15) ⟨by decide, rfl⟩ rfl rfl rfl rfl (xe_mono (C_X11_readSense_256 s16 hG_s16 a (by first | exact x_rb b_a rfl rfl | exact ⟨by omega, by omega⟩) Ra_s16) ?_)
        rintro s165 v ⟨hG_s165, t_s165, z164, rfl, g_z164, xp_z164, Ra_s165⟩
        have f_s165 : FL [4133, 4136, 4132, 4134, 4135, 5120, 5184, 5248] s0 s165 := f_s16.tr t_s165 (by decide +kernel)
        have q166 : s165 256 34 = z4 := (t_s165 256 34 (show 4131 ∉ [4133, 4136, 4132, 4134, 4135, 5184, 5248] from by decide +kernel)).trans q17
        show xe none 186 55 [(4, vi 0), (3, vi z6), (0, .ref 256), (1, vi a), (2, vi b)] [vi z164] s165 0 0 _
        obtain ⟨z167, e_z167⟩ : ∃ z, z = s165 273 a.toNat := ⟨_, rfl⟩
        have g_z167 : (-2147483648) ≤ s165 273 a.toNat ∧ s165 273 a.toNat ≤ 2147483647 := hG_s165 273 a.toNat
        refine x_istore k186_55 (ls' := [(4, vi z164), (3, vi z6), (0, .ref 256), (1, vi a), (2, vi b)]) (by decide) rfl ?_
        refine x_goto k186_57 (t := 125) rfl ?_
        refine x_A k186_125 (fun _ => rfl) ?_
        refine x_if_le k186_127 (t := 133) rfl (by first | exact x_rbe e_z164 g_z164 rfl rfl | exact x_rb g_z164 rfl rfl | exact ⟨by omega, by omega⟩) (fun c168 => ?_) (fun c168 => ?_)
        · skip
          refine x_A k186_133 (fun _ => rfl) ?_
          refine x_callV k186_134 (y := 176) (n := 0) (w0 := 0) (w1 := 0) (as := []) (rest := []) (by decide +kernel) (q := 256) (nq := 62) (kq := 15) ⟨by decide, rfl⟩ rfl rfl rfl rfl (xe_mono (C_X11_here_256 s165 hG_s165) ?_)
          rintro s170 v ⟨hG_s170, t_s170, z169, rfl, g_z169, xp_z169⟩
          have f_s170 : FL [4133, 4136, 4132, 4134, 4135, 5120, 5184, 5248] s0 s170 := f_s165.tr t_s170 (by decide +kernel)
          have q171 : s170 256 34 = z4 := (t_s170 256 34 (show 4131 ∉ [4133] from by decide +kernel)).trans q166
          have q172 : s170 273 a.toNat = z167 := (t_s170 273 a.toNat (show 5184 ∉ [4133] from by decide +kernel)).trans e_z167.symm
          have Ra_s170 : JRc s170 a := JRc.fl Ra_s165 t_s170 (by decide +kernel)
          obtain ⟨z173, e_z173⟩ : ∃ z, z = s170 256 36 := ⟨_, rfl⟩
          have g_z173 : (0 : Int) ≤ s170 256 36 ∧ s170 256 36 ≤ 160 := hG_s170 256 36
          show xe none 186 137 [(4, vi z164), (3, vi z6), (0, .ref 256), (1, vi a), (2, vi b)] [vi z169] s170 0 0 _
          refine x_bipush k186_137 (by decide +kernel) ?_
          refine x_ic_eq k186_139 (t := 152) rfl (by first | exact x_rbe e_z169 g_z169 rfl rfl | exact x_rb g_z169 rfl rfl | exact ⟨by omega, by omega⟩) ⟨by decide, by decide⟩ (fun c174 => ?_) (fun c174 => ?_)
          · skip
            refine x_A k186_152 (fun _ => rfl) ?_
            refine x_A k186_153 (fun _ => rfl) ?_
            refine x_getI k186_154 (f := 36) rfl (q := 256) (n := 62) (kd := 15) ⟨by decide, rfl⟩ (by decide) rfl ?_
            rw [e_z173.symm]
            refine x_A k186_157 (fun _ => rfl) ?_
            refine x_iadd k186_158 ?_
            refine x_top (fun z175 e_z175 => ?_)
            refine x_putI k186_159 (f := 36) rfl (q := 256) (n := 62) (kd := 15) ⟨by decide, rfl⟩ rfl rfl rfl ?_
            refine x_nh (fun s176 e_s176 => ?_)
            have hG_s176 : GI s176 := by rw [e_s176]; exact hG_s170.up (show 0 ≤ z175 ∧ z175 ≤ 160 from (by first | exact x_rbe e_z175 g_z175 rfl rfl | exact x_rb g_z175 rfl rfl | exact ⟨by omega, by omega⟩))
            have f_s176 : FL [4133, 4136, 4132, 4134, 4135, 5120, 5184, 5248] s0 s176 := by rw [e_s176]; exact f_s170.up (show 4133 ∈ [4133, 4136, 4132, 4134, 4135, 5120, 5184, 5248] from by decide +kernel)
            have q177 : s176 256 34 = z4 := by rw [e_s176, x_up_i (by decide)]; exact q171
            have q178 : s176 256 36 = z175 := by rw [e_s176]; exact x_up_same
            have q179 : s176 273 a.toNat = z167 := by rw [e_s176, x_up_q (by first | decide | omega)]; exact q172
            have Ra_s176 : JRc s176 a := by rw [e_s176]; exact JRc.up Ra_s170 (show 4133 ∉ [5120, 5184] from by decide +kernel)
            refine x_A k186_162 (fun _ => rfl) ?_
            refine x_getR k186_163 (f := 21) rfl (q := 256) (n := 62) (kd := 15) ⟨by decide, rfl⟩ (q2 := 272) (by decide) rfl ?_
            refine x_A k186_166 (fun _ => rfl) ?_
            refine x_A k186_167 (fun _ => rfl) ?_
            refine x_iast k186_168 (q := 272) (n := 72) ⟨by decide, rfl⟩ (by decide) (by first | exact x_rbl b_a rfl rfl | exact ⟨by omega, by omega⟩) ?_
            refine x_nh (fun s180 e_s180 => ?_)
            have hG_s180 : GI s180 := by rw [e_s180]; exact hG_s176.up (show 0 ≤ z6 ∧ z6 ≤ 5 from (by first | exact x_rbe e_z6 g_z6 rfl rfl | exact x_rb g_z6 rfl rfl | exact ⟨by omega, by omega⟩))
            have f_s180 : FL [4133, 4136, 4132, 4134, 4135, 5120, 5184, 5248] s0 s180 := by rw [e_s180]; exact f_s176.up (show 5120 ∈ [4133, 4136, 4132, 4134, 4135, 5120, 5184, 5248] from by decide +kernel)
            have q181 : s180 256 34 = z4 := by rw [e_s180, x_up_q (by decide)]; exact q177
            have q182 : s180 256 36 = z175 := by rw [e_s180, x_up_q (by decide)]; exact q178
            have q183 : s180 273 a.toNat = z167 := by rw [e_s180, x_up_q (by first | decide | omega)]; exact q179
            have q184 : s180 272 a.toNat = z6 := by rw [e_s180]; exact x_up_same
            have Ra_s180 : JRc s180 a := by rw [e_s180]; exact JRc.st Ra_s176 (by omega)
            refine x_A k186_169 (fun _ => rfl) ?_
            exact x_iret k186_170 rfl ⟨hG_s180, f_s180, 0, rfl, ⟨by decide, by decide⟩, ⟨fun hb => by omega, fun _ => JRc.add Ra_s180 (by omega) (fun hk => by rw [q184] at hk; rw [q183]; omega)⟩, Ra_s180⟩
          · skip
            refine x_A k186_142 (fun _ => rfl) ?_
            refine x_A k186_143 (fun _ => rfl) ?_
            refine x_A k186_144 (fun _ => rfl) ?_
            refine x_getI k186_145 (f := 36) rfl (q := 256) (n := 62) (kd := 15) ⟨by decide, rfl⟩ (by decide) rfl ?_
            rw [e_z173.symm]
            refine x_callV k186_148 (y := 177) (n := 2) (w0 := 0) (w1 := 2) (as := [vi 1, vi z173]) (rest := []) (by decide +kernel) (q := 256) (nq := 62) (kq := 15) ⟨by decide, rfl⟩ rfl rfl rfl rfl (xe_mono (C_X11_fails_256 s170 hG_s170 1 ⟨by decide, by decide⟩ z173 (by first | exact x_rbe e_z173 g_z173 rfl rfl | exact x_rb g_z173 rfl rfl | exact ⟨by omega, by omega⟩)) ?_)
            rintro s186 v ⟨hG_s186, t_s186, z185, rfl, g_z185, xp_z185⟩
            have f_s186 : FL [4133, 4136, 4132, 4134, 4135, 5120, 5184, 5248] s0 s186 := f_s170.tr t_s186 (by decide +kernel)
            have q187 : s186 256 34 = z4 := (t_s186 256 34 (show 4131 ∉ [4132] from by decide +kernel)).trans q171
            have q188 : s186 256 36 = z173 := (t_s186 256 36 (show 4133 ∉ [4132] from by decide +kernel)).trans e_z173.symm
            have q189 : s186 273 a.toNat = z167 := (t_s186 273 a.toNat (show 5184 ∉ [4132] from by decide +kernel)).trans q172
            have Ra_s186 : JRc s186 a := JRc.fl Ra_s170 t_s186 (by decide +kernel)
            show xe none 186 151 [(4, vi z164), (3, vi z6), (0, .ref 256), (1, vi a), (2, vi b)] [vi z185] s186 0 0 _
            exact x_iret k186_151 rfl ⟨hG_s186, f_s186, z185, rfl, (by first | exact x_rbe e_z185 g_z185 rfl rfl | exact x_rb g_z185 rfl rfl | exact ⟨by omega, by omega⟩), ⟨fun _ => by omega, fun hz => by exfalso; omega⟩, Ra_s186⟩
        · skip
          refine x_A k186_130 (fun _ => rfl) ?_
          exact x_iret k186_132 rfl ⟨hG_s165, f_s165, z164, rfl, (by first | exact x_rbe e_z164 g_z164 rfl rfl | exact x_rb g_z164 rfl rfl | exact ⟨by omega, by omega⟩), ⟨fun _ => by omega, fun hz => by exfalso; omega⟩, Ra_s165⟩
    · skip
      refine x_A k186_17 (fun _ => rfl) ?_
      refine x_A k186_18 (fun _ => rfl) ?_
      refine x_if_ge k186_19 (t := 26) rfl (by first | exact x_rbe e_z6 g_z6 rfl rfl | exact x_rb g_z6 rfl rfl | exact ⟨by omega, by omega⟩) (fun c190 => ?_) (fun c190 => by exfalso; omega)
      refine x_A k186_26 (fun _ => rfl) ?_
      refine x_A k186_27 (fun _ => rfl) ?_
      refine x_getI k186_28 (f := 36) rfl (q := 256) (n := 62) (kd := 15) ⟨by decide, rfl⟩ (by decide) rfl ?_
      rw [e_z3.symm]
      refine x_callV k186_31 (y := 177) (n := 2) (w0 := 0) (w1 := 2) (as := [vi 4, vi z3]) (rest := []) (by decide +kernel) (q := 256) (nq := 62) (kq := 15) ⟨by decide, rfl⟩ rfl rfl rfl rfl (xe_mono (C_X11_fails_256 s2 hG_s2 4 ⟨by decide, by decide⟩ z3 (by first | exact x_rbe e_z3 g_z3 rfl rfl | exact x_rb g_z3 rfl rfl | exact ⟨by omega, by omega⟩)) ?_)
      rintro s192 v ⟨hG_s192, t_s192, z191, rfl, g_z191, xp_z191⟩
      have f_s192 : FL [4133, 4136, 4132, 4134, 4135, 5120, 5184, 5248] s0 s192 := f_s2.tr t_s192 (by decide +kernel)
      have q193 : s192 256 36 = z3 := (t_s192 256 36 (show 4133 ∉ [4132] from by decide +kernel)).trans e_z3.symm
      have q194 : s192 256 34 = z4 := (t_s192 256 34 (show 4131 ∉ [4132] from by decide +kernel)).trans e_z4.symm
      have q195 : s192 256 38 = z5 := (t_s192 256 38 (show 4135 ∉ [4132] from by decide +kernel)).trans e_z5.symm
      have Ra_s192 : JRc s192 a := JRc.fl Ra_s2 t_s192 (by decide +kernel)
      show xe none 186 34 [(3, vi z6), (0, .ref 256), (1, vi a), (2, vi b)] [vi z191] s192 0 0 _
      exact x_iret k186_34 rfl ⟨hG_s192, f_s192, z191, rfl, (by first | exact x_rbe e_z191 g_z191 rfl rfl | exact x_rb g_z191 rfl rfl | exact ⟨by omega, by omega⟩), ⟨fun _ => by omega, fun hz => by exfalso; omega⟩, Ra_s192⟩
theorem L_C_X11_rule_256_43 (s0 : xS) (a : Int) (b_a : (-2147483648) ≤ a ∧ a ≤ 2147483647)  : ∀ (n : Nat) (s : xS) (x1 : Int) (x2 : Int) (x3 : Int) (x1000 : Int) (x1001 : Int) (hG : GI s) (f : FL [4133, 4136, 4132, 4134, 4135, 5120, 5184, 5248, 4131, 4992, 5056, 4117, 4114] s0 s) (b_x1 : 0 ≤ x1 ∧ x1 ≤ 9) (b_x2 : 0 ≤ x2 ∧ x2 ≤ 8) (b_x3 : 0 ≤ x3 ∧ x3 ≤ 5) (b_x1000 : 0 ≤ x1000 ∧ x1000 ≤ 64) (b_x1001 : 0 ≤ x1001 ∧ x1001 ≤ 7) (w_0 : x1 = a) (w_1 : x1000 = s0 256 20) (w_2 : x1001 = s0 256 17) (w_3 : x1000 ≤ 8 * x1001) (w_4 : 0 ≤ a ∧ a ≤ 9) (w_5 : x1001 ≤ 7) (w_6 : JRc s (s0 256 20 + x2)) (e_x1000 : x1000 = s 256 20) (e_x1001 : x1001 = s 256 17) (i_J : J s)  (hm : (40 - 2 * x2 - x3) < (n : Int)), xe none 187 43 [(0, .ref 256), (1, vi x1), (2, vi x2), (3, vi x3)] [] s 0 0 (fun s' v => GI s' ∧ FL [4133, 4136, 4132, 4134, 4135, 5120, 5184, 5248, 4131, 4992, 5056, 4117, 4114] s0 s' ∧ ∃ z, v = some (vi z) ∧ ((-2147483648) ≤ z ∧ z ≤ 2147483647) ∧ J s') := by
  intro n
  induction n with
  | zero => intro s x1 x2 x3 x1000 x1001 hG f b_x1 b_x2 b_x3 b_x1000 b_x1001 w_0 w_1 w_2 w_3 w_4 w_5 w_6 e_x1000 e_x1001 i_J  hm; exfalso; omega
  | succ n ih =>
    intro s x1 x2 x3 x1000 x1001 hG f b_x1 b_x2 b_x3 b_x1000 b_x1001 w_0 w_1 w_2 w_3 w_4 w_5 w_6 e_x1000 e_x1001 i_J  hm
    refine x_A k187_43 (fun _ => rfl) ?_
    refine x_if_ne k187_44 (t := 91) rfl (by first | exact x_rb b_x3 rfl rfl | exact ⟨by omega, by omega⟩) (fun c742 => ?_) (fun c742 => ?_)
    · skip
      refine x_A k187_91 (fun _ => rfl) ?_
      refine x_A k187_92 (fun _ => rfl) ?_
      refine x_putI k187_93 (f := 34) rfl (q := 256) (n := 62) (kd := 15) ⟨by decide, rfl⟩ rfl rfl rfl ?_
      refine x_nh (fun s743 e_s743 => ?_)
      have hG_s743 : GI s743 := by rw [e_s743]; exact hG.up (show 0 ≤ 0 ∧ 0 ≤ 160 from ⟨by decide, by decide⟩)
      have f_s743 : FL [4133, 4136, 4132, 4134, 4135, 5120, 5184, 5248, 4131, 4992, 5056, 4117, 4114] s0 s743 := by rw [e_s743]; exact f.up (show 4131 ∈ [4133, 4136, 4132, 4134, 4135, 5120, 5184, 5248, 4131, 4992, 5056, 4117, 4114] from by decide +kernel)
      have q744 : s743 256 20 = x1000 := by rw [e_s743, x_up_i (by decide)]; exact e_x1000.symm
      have q745 : s743 256 17 = x1001 := by rw [e_s743, x_up_i (by decide)]; exact e_x1001.symm
      have q746 : s743 256 34 = 0 := by rw [e_s743]; exact x_up_same
      have J_s743 : J s743 := by rw [e_s743]; exact J.up i_J (show 4131 ∉ LJ from by decide)
      have Rn_s743 : JRc s743 (s0 256 20 + x2) := by rw [e_s743]; exact JRc.up w_6 (show 4131 ∉ [5120, 5184] from by decide +kernel)
      refine x_A k187_96 (fun _ => rfl) ?_
      refine x_if_le k187_97 (t := 105) rfl (by first | exact x_rb b_x3 rfl rfl | exact ⟨by omega, by omega⟩) (fun c747 => by exfalso; omega) (fun c747 => ?_)
      refine x_bipush k187_100 (by decide +kernel) ?_
      refine x_A k187_102 (fun _ => rfl) ?_
      refine x_isub k187_103 ?_
      refine x_top (fun z748 e_z748 => ?_)
      exact x_iret k187_104 rfl ⟨hG_s743, f_s743, z748, rfl, (by first | exact x_rbe e_z748 g_z748 rfl rfl | exact x_rb g_z748 rfl rfl | exact ⟨by omega, by omega⟩), J_s743⟩
    · skip
      refine x_A k187_47 (fun _ => rfl) ?_
      refine x_callV k187_48 (y := 176) (n := 0) (w0 := 0) (w1 := 0) (as := []) (rest := []) (by decide +kernel) (q := 256) (nq := 62) (kq := 15) ⟨by decide, rfl⟩ rfl rfl rfl rfl (xe_mono (C_X11_here_256 s hG) ?_)
      rintro s750 v ⟨hG_s750, t_s750, z749, rfl, g_z749, xp_z749⟩
      have f_s750 : FL [4133, 4136, 4132, 4134, 4135, 5120, 5184, 5248, 4131, 4992, 5056, 4117, 4114] s0 s750 := f.tr t_s750 (by decide +kernel)
      have q751 : s750 256 20 = x1000 := (t_s750 256 20 (show 4117 ∉ [4133] from by decide +kernel)).trans e_x1000.symm
      have q752 : s750 256 17 = x1001 := (t_s750 256 17 (show 4114 ∉ [4133] from by decide +kernel)).trans e_x1001.symm
      have J_s750 : J s750 := J.fl i_J t_s750 (by decide +kernel)
      have Rn_s750 : JRc s750 (s0 256 20 + x2) := JRc.fl w_6 t_s750 (by decide +kernel)
      obtain ⟨z753, e_z753⟩ : ∃ z, z = s750 256 36 := ⟨_, rfl⟩
      have g_z753 : (0 : Int) ≤ s750 256 36 ∧ s750 256 36 ≤ 160 := hG_s750 256 36
      obtain ⟨z754, e_z754⟩ : ∃ z, z = s750 256 34 := ⟨_, rfl⟩
      have g_z754 : (0 : Int) ≤ s750 256 34 ∧ s750 256 34 ≤ 160 := hG_s750 256 34
      show xe none 187 51 [(0, .ref 256), (1, vi x1), (2, vi x2), (3, vi x3)] [vi z749] s750 0 0 _
      refine x_if_lt k187_51 (t := 91) rfl (by first | exact x_rbe e_z749 g_z749 rfl rfl | exact x_rb g_z749 rfl rfl | exact ⟨by omega, by omega⟩) (fun c755 => ?_) (fun c755 => ?_)
      · skip
        refine x_A k187_91 (fun _ => rfl) ?_
        refine x_A k187_92 (fun _ => rfl) ?_
        refine x_putI k187_93 (f := 34) rfl (q := 256) (n := 62) (kd := 15) ⟨by decide, rfl⟩ rfl rfl rfl ?_
        refine x_nh (fun s756 e_s756 => ?_)
        have hG_s756 : GI s756 := by rw [e_s756]; exact hG_s750.up (show 0 ≤ 0 ∧ 0 ≤ 160 from ⟨by decide, by decide⟩)
        have f_s756 : FL [4133, 4136, 4132, 4134, 4135, 5120, 5184, 5248, 4131, 4992, 5056, 4117, 4114] s0 s756 := by rw [e_s756]; exact f_s750.up (show 4131 ∈ [4133, 4136, 4132, 4134, 4135, 5120, 5184, 5248, 4131, 4992, 5056, 4117, 4114] from by decide +kernel)
        have q757 : s756 256 20 = x1000 := by rw [e_s756, x_up_i (by decide)]; exact q751
        have q758 : s756 256 17 = x1001 := by rw [e_s756, x_up_i (by decide)]; exact q752
        have q759 : s756 256 36 = z753 := by rw [e_s756, x_up_i (by decide)]; exact e_z753.symm
        have q760 : s756 256 34 = 0 := by rw [e_s756]; exact x_up_same
        have J_s756 : J s756 := by rw [e_s756]; exact J.up J_s750 (show 4131 ∉ LJ from by decide)
        have Rn_s756 : JRc s756 (s0 256 20 + x2) := by rw [e_s756]; exact JRc.up Rn_s750 (show 4131 ∉ [5120, 5184] from by decide +kernel)
        refine x_A k187_96 (fun _ => rfl) ?_
        refine x_if_le k187_97 (t := 105) rfl (by first | exact x_rb b_x3 rfl rfl | exact ⟨by omega, by omega⟩) (fun c761 => ?_) (fun c761 => by exfalso; omega)
        refine x_A k187_105 (fun _ => rfl) ?_
        refine x_getR k187_106 (f := 18) rfl (q := 256) (n := 62) (kd := 15) ⟨by decide, rfl⟩ (q2 := 270) (by decide) rfl ?_
        refine x_A k187_109 (fun _ => rfl) ?_
        refine x_getI k187_110 (f := 17) rfl (q := 256) (n := 62) (kd := 15) ⟨by decide, rfl⟩ (by decide) rfl ?_
        rw [q758]
        refine x_A k187_113 (fun _ => rfl) ?_
        refine x_iast k187_114 (q := 270) (n := 8) ⟨by decide, rfl⟩ (by decide) (by first | exact x_rbl b_x1001 rfl rfl | exact ⟨by omega, by omega⟩) ?_
        refine x_nh (fun s762 e_s762 => ?_)
        have hG_s762 : GI s762 := by rw [e_s762]; exact hG_s756.up (show 0 ≤ x1 ∧ x1 ≤ 9 from (by first | exact x_rb b_x1 rfl rfl | exact ⟨by omega, by omega⟩))
        have f_s762 : FL [4133, 4136, 4132, 4134, 4135, 5120, 5184, 5248, 4131, 4992, 5056, 4117, 4114] s0 s762 := by rw [e_s762]; exact f_s756.up (show 4992 ∈ [4133, 4136, 4132, 4134, 4135, 5120, 5184, 5248, 4131, 4992, 5056, 4117, 4114] from by decide +kernel)
        have q763 : s762 256 20 = x1000 := by rw [e_s762, x_up_q (by decide)]; exact q757
        have q764 : s762 256 17 = x1001 := by rw [e_s762, x_up_q (by decide)]; exact q758
        have q765 : s762 256 36 = z753 := by rw [e_s762, x_up_q (by decide)]; exact q759
        have q766 : s762 256 34 = 0 := by rw [e_s762, x_up_q (by decide)]; exact q760
        have q767 : s762 270 x1001.toNat = x1 := by rw [e_s762]; exact x_up_same
        have J_s762 : J s762 := by rw [e_s762]; exact J.up J_s756 (show 4992 ∉ LJ from by decide)
        have Rn_s762 : JRc s762 (s0 256 20 + x2) := by rw [e_s762]; exact JRc.up Rn_s756 (show 4992 ∉ [5120, 5184] from by decide +kernel)
        refine x_A k187_115 (fun _ => rfl) ?_
        refine x_getR k187_116 (f := 19) rfl (q := 256) (n := 62) (kd := 15) ⟨by decide, rfl⟩ (q2 := 271) (by decide) rfl ?_
        refine x_A k187_119 (fun _ => rfl) ?_
        refine x_getI k187_120 (f := 17) rfl (q := 256) (n := 62) (kd := 15) ⟨by decide, rfl⟩ (by decide) rfl ?_
        rw [q764]
        refine x_A k187_123 (fun _ => rfl) ?_
        refine x_getI k187_124 (f := 20) rfl (q := 256) (n := 62) (kd := 15) ⟨by decide, rfl⟩ (by decide) rfl ?_
        rw [q763]
        refine x_iast k187_127 (q := 271) (n := 9) ⟨by decide, rfl⟩ (by decide) (by first | exact x_rbl b_x1001 rfl rfl | exact ⟨by omega, by omega⟩) ?_
        refine x_nh (fun s768 e_s768 => ?_)
        have hG_s768 : GI s768 := by rw [e_s768]; exact hG_s762.up (show 0 ≤ x1000 ∧ x1000 ≤ 64 from (by first | exact x_rb b_x1000 rfl rfl | exact ⟨by omega, by omega⟩))
        have f_s768 : FL [4133, 4136, 4132, 4134, 4135, 5120, 5184, 5248, 4131, 4992, 5056, 4117, 4114] s0 s768 := by rw [e_s768]; exact f_s762.up (show 5056 ∈ [4133, 4136, 4132, 4134, 4135, 5120, 5184, 5248, 4131, 4992, 5056, 4117, 4114] from by decide +kernel)
        have q769 : s768 256 20 = x1000 := by rw [e_s768, x_up_q (by decide)]; exact q763
        have q770 : s768 256 17 = x1001 := by rw [e_s768, x_up_q (by decide)]; exact q764
        have q771 : s768 256 36 = z753 := by rw [e_s768, x_up_q (by decide)]; exact q765
        have q772 : s768 256 34 = 0 := by rw [e_s768, x_up_q (by decide)]; exact q766
        have q773 : s768 270 x1001.toNat = x1 := by rw [e_s768, x_up_q (by first | decide | omega)]; exact q767
        have q774 : s768 271 x1001.toNat = x1000 := by rw [e_s768]; exact x_up_same
        have Rn_s768 : JRc s768 (s0 256 20 + x2) := by rw [e_s768]; exact JRc.up Rn_s762 (show 5056 ∉ [5120, 5184] from by decide +kernel)
        refine x_A k187_128 (fun _ => rfl) ?_
        refine x_A k187_129 (fun _ => rfl) ?_
        refine x_getI k187_130 (f := 20) rfl (q := 256) (n := 62) (kd := 15) ⟨by decide, rfl⟩ (by decide) rfl ?_
        rw [q769]
        refine x_A k187_133 (fun _ => rfl) ?_
        refine x_iadd k187_134 ?_
        refine x_top (fun z775 e_z775 => ?_)
        refine x_putI k187_135 (f := 20) rfl (q := 256) (n := 62) (kd := 15) ⟨by decide, rfl⟩ rfl rfl rfl ?_
        refine x_nh (fun s776 e_s776 => ?_)
        have hG_s776 : GI s776 := by rw [e_s776]; exact hG_s768.up (show 0 ≤ z775 ∧ z775 ≤ 64 from (by first | exact x_rbe e_z775 g_z775 rfl rfl | exact x_rb g_z775 rfl rfl | exact ⟨by omega, by omega⟩))
        have f_s776 : FL [4133, 4136, 4132, 4134, 4135, 5120, 5184, 5248, 4131, 4992, 5056, 4117, 4114] s0 s776 := by rw [e_s776]; exact f_s768.up (show 4117 ∈ [4133, 4136, 4132, 4134, 4135, 5120, 5184, 5248, 4131, 4992, 5056, 4117, 4114] from by decide +kernel)
        have q777 : s776 256 17 = x1001 := by rw [e_s776, x_up_i (by decide)]; exact q770
        have q778 : s776 256 36 = z753 := by rw [e_s776, x_up_i (by decide)]; exact q771
        have q779 : s776 256 34 = 0 := by rw [e_s776, x_up_i (by decide)]; exact q772
        have q780 : s776 256 20 = z775 := by rw [e_s776]; exact x_up_same
        have q781 : s776 270 x1001.toNat = x1 := by rw [e_s776, x_up_q (by first | decide | omega)]; exact q773
        have q782 : s776 271 x1001.toNat = x1000 := by rw [e_s776, x_up_q (by first | decide | omega)]; exact q774
        have Rn_s776 : JRc s776 (s0 256 20 + x2) := by rw [e_s776]; exact JRc.up Rn_s768 (show 4117 ∉ [5120, 5184] from by decide +kernel)
        refine x_A k187_138 (fun _ => rfl) ?_
        refine x_A k187_139 (fun _ => rfl) ?_
        refine x_getI k187_140 (f := 17) rfl (q := 256) (n := 62) (kd := 15) ⟨by decide, rfl⟩ (by decide) rfl ?_
        rw [q777]
        refine x_A k187_143 (fun _ => rfl) ?_
        refine x_iadd k187_144 ?_
        refine x_top (fun z783 e_z783 => ?_)
        refine x_putI k187_145 (f := 17) rfl (q := 256) (n := 62) (kd := 15) ⟨by decide, rfl⟩ rfl rfl rfl ?_
        refine x_nh (fun s784 e_s784 => ?_)
        have hG_s784 : GI s784 := by rw [e_s784]; exact hG_s776.up (show 0 ≤ z783 ∧ z783 ≤ 8 from (by first | exact x_rbe e_z783 g_z783 rfl rfl | exact x_rb g_z783 rfl rfl | exact ⟨by omega, by omega⟩))
        have f_s784 : FL [4133, 4136, 4132, 4134, 4135, 5120, 5184, 5248, 4131, 4992, 5056, 4117, 4114] s0 s784 := by rw [e_s784]; exact f_s776.up (show 4114 ∈ [4133, 4136, 4132, 4134, 4135, 5120, 5184, 5248, 4131, 4992, 5056, 4117, 4114] from by decide +kernel)
        have q785 : s784 256 36 = z753 := by rw [e_s784, x_up_i (by decide)]; exact q778
        have q786 : s784 256 34 = 0 := by rw [e_s784, x_up_i (by decide)]; exact q779
        have q787 : s784 256 20 = z775 := by rw [e_s784, x_up_i (by decide)]; exact q780
        have q788 : s784 256 17 = z783 := by rw [e_s784]; exact x_up_same
        have q789 : s784 270 x1001.toNat = x1 := by rw [e_s784, x_up_q (by first | decide | omega)]; exact q781
        have q790 : s784 271 x1001.toNat = x1000 := by rw [e_s784, x_up_q (by first | decide | omega)]; exact q782
        have Rn_s784 : JRc s784 (s0 256 20 + x2) := by rw [e_s784]; exact JRc.up Rn_s776 (show 4114 ∉ [5120, 5184] from by decide +kernel)
        refine x_A k187_148 (fun _ => rfl) ?_
        refine x_getR k187_149 (f := 19) rfl (q := 256) (n := 62) (kd := 15) ⟨by decide, rfl⟩ (q2 := 271) (by decide) rfl ?_
        refine x_A k187_152 (fun _ => rfl) ?_
        refine x_getI k187_153 (f := 17) rfl (q := 256) (n := 62) (kd := 15) ⟨by decide, rfl⟩ (by decide) rfl ?_
        rw [q788]
        refine x_A k187_156 (fun _ => rfl) ?_
        refine x_getI k187_157 (f := 20) rfl (q := 256) (n := 62) (kd := 15) ⟨by decide, rfl⟩ (by decide) rfl ?_
        rw [q787]
        refine x_iast k187_160 (q := 271) (n := 9) ⟨by decide, rfl⟩ (by decide) (by first | exact x_rbel e_z783 g_z783 rfl rfl | exact x_rbl g_z783 rfl rfl | exact ⟨by omega, by omega⟩) ?_
        refine x_nh (fun s791 e_s791 => ?_)
        have hG_s791 : GI s791 := by rw [e_s791]; exact hG_s784.up (show 0 ≤ z775 ∧ z775 ≤ 64 from (by first | exact x_rbe e_z775 g_z775 rfl rfl | exact x_rb g_z775 rfl rfl | exact ⟨by omega, by omega⟩))
        have f_s791 : FL [4133, 4136, 4132, 4134, 4135, 5120, 5184, 5248, 4131, 4992, 5056, 4117, 4114] s0 s791 := by rw [e_s791]; exact f_s784.up (show 5056 ∈ [4133, 4136, 4132, 4134, 4135, 5120, 5184, 5248, 4131, 4992, 5056, 4117, 4114] from by decide +kernel)
        have q792 : s791 256 36 = z753 := by rw [e_s791, x_up_q (by decide)]; exact q785
        have q793 : s791 256 34 = 0 := by rw [e_s791, x_up_q (by decide)]; exact q786
        have q794 : s791 256 20 = z775 := by rw [e_s791, x_up_q (by decide)]; exact q787
        have q795 : s791 256 17 = z783 := by rw [e_s791, x_up_q (by decide)]; exact q788
        have q796 : s791 270 x1001.toNat = x1 := by rw [e_s791, x_up_q (by first | decide | omega)]; exact q789
        have q797 : s791 271 z783.toNat = z775 := by rw [e_s791]; exact x_up_same
        have Rn_s791 : JRc s791 (s0 256 20 + x2) := by rw [e_s791]; exact JRc.up Rn_s784 (show 5056 ∉ [5120, 5184] from by decide +kernel)
        have J_r : J s791 := by rw [e_s791, e_s784, e_s776, e_s768, e_s762]; exact J.rule J_s756 (n := x2) (show x1001 = s756 256 17 by omega) ⟨by omega, by omega⟩ (by omega) (show x1000 = s756 256 20 by omega) ⟨by omega, by omega⟩ (by omega) (by rw [show z775 = s0 256 20 + x2 by omega]; exact Rn_s756)
        refine x_A k187_161 (fun _ => rfl) ?_
        refine x_getI k187_162 (f := 17) rfl (q := 256) (n := 62) (kd := 15) ⟨by decide, rfl⟩ (by decide) rfl ?_
        rw [q795]
        refine x_A k187_165 (fun _ => rfl) ?_
        refine x_isub k187_166 ?_
        refine x_top (fun z798 e_z798 => ?_)
        exact x_iret k187_167 rfl ⟨hG_s791, f_s791, z798, rfl, (by first | exact x_rbe e_z798 g_z798 rfl rfl | exact x_rb g_z798 rfl rfl | exact ⟨by omega, by omega⟩), J_r⟩
      · skip
        refine x_A k187_54 (fun _ => rfl) ?_
        refine x_A k187_55 (fun _ => rfl) ?_
        refine x_getI k187_56 (f := 20) rfl (q := 256) (n := 62) (kd := 15) ⟨by decide, rfl⟩ (by decide) rfl ?_
        rw [q751]
        refine x_A k187_59 (fun _ => rfl) ?_
        refine x_iadd k187_60 ?_
        refine x_top (fun z799 e_z799 => ?_)
        refine x_A k187_61 (fun _ => rfl) ?_
        refine x_bipush k187_62 (by decide +kernel) ?_
        refine x_ic_ne k187_64 (t := 71) rfl (by first | exact x_rb b_x2 rfl rfl | exact ⟨by omega, by omega⟩) ⟨by decide, by decide⟩ (fun c800 => ?_) (fun c800 => ?_)
        · skip
          refine x_A k187_71 (fun _ => rfl) ?_
          have Ra_i : JRc s750 z799 := by rw [show z799 = s0 256 20 + x2 by omega]; exact Rn_s750
          refine x_callV k187_72 (y := 186) (n := 2) (w0 := 0) (w1 := 2) (as := [vi z799, vi 0]) (rest := []) (by decide +kernel) (q := 256) (nq := 62) (kq := 15) ⟨by decide, rfl⟩ rfl rfl rfl rfl (xe_mono (C_X11_readClause_256 s750 hG_s750 z799 (by first | exact x_rbe e_z799 g_z799 rfl rfl | exact x_rb g_z799 rfl rfl | exact ⟨by omega, by omega⟩) 0 ⟨by decide, by decide⟩ Ra_i) ?_)
          rintro s802 v ⟨hG_s802, t_s802, z801, rfl, g_z801, xp_z801, Ra_s802⟩
          have f_s802 : FL [4133, 4136, 4132, 4134, 4135, 5120, 5184, 5248, 4131, 4992, 5056, 4117, 4114] s0 s802 := f_s750.tr t_s802 (by decide +kernel)
          have q803 : s802 256 20 = x1000 := (t_s802 256 20 (show 4117 ∉ [4133, 4136, 4132, 4134, 4135, 5120, 5184, 5248] from by decide +kernel)).trans q751
          have q804 : s802 256 17 = x1001 := (t_s802 256 17 (show 4114 ∉ [4133, 4136, 4132, 4134, 4135, 5120, 5184, 5248] from by decide +kernel)).trans q752
          have q805 : s802 256 34 = z754 := (t_s802 256 34 (show 4131 ∉ [4133, 4136, 4132, 4134, 4135, 5120, 5184, 5248] from by decide +kernel)).trans e_z754.symm
          show xe none 187 75 [(0, .ref 256), (1, vi x1), (2, vi x2), (3, vi x3)] [vi z801] s802 0 0 _
          have J_s802 : J s802 := J.rc J_s750 t_s802 (by decide) Ra_s802 (by omega)
          refine x_istore_n k187_75 (ls' := [(3, vi z801), (0, .ref 256), (1, vi x1), (2, vi x2)]) (by decide) rfl ?_
          refine x_A k187_76 (fun _ => rfl) ?_
          refine x_A k187_77 (fun _ => rfl) ?_
          refine x_if_ne k187_78 (t := 85) rfl (by first | exact x_rbe e_z801 g_z801 rfl rfl | exact x_rb g_z801 rfl rfl | exact ⟨by omega, by omega⟩) (fun c806 => ?_) (fun c806 => ?_)
          · skip
            refine x_A k187_85 (fun _ => rfl) ?_
            refine x_iadd k187_86 ?_
            refine x_top (fun z807 e_z807 => ?_)
            refine x_istore_n k187_87 (ls' := [(2, vi z807), (3, vi z801), (0, .ref 256), (1, vi x1)]) (by decide) rfl ?_
            refine x_goto k187_88 (t := 43) rfl ?_
            refine x_ls (l := [(0, .ref 256), (1, vi x1), (2, vi z807), (3, vi z801)]) (show ([0, 1, 2, 3] : List Nat).Nodup from by decide +kernel) ⟨rfl, rfl, rfl, rfl, trivial⟩ ?_
            exact ih s802 x1 z807 z801 x1000 x1001 hG_s802 f_s802 (by first | exact x_rb b_x1 rfl rfl | exact ⟨by omega, by omega⟩) (by first | exact x_rbe e_z807 g_z807 rfl rfl | exact x_rb g_z807 rfl rfl | exact ⟨by omega, by omega⟩) (by first | exact x_rbe e_z801 g_z801 rfl rfl | exact x_rb g_z801 rfl rfl | exact ⟨by omega, by omega⟩) (by first | exact x_rb b_x1000 rfl rfl | exact ⟨by omega, by omega⟩) (by first | exact x_rb b_x1001 rfl rfl | exact ⟨by omega, by omega⟩) (by omega) (by omega) (by omega) (by omega) (by omega) (by omega) (by rw [show s0 256 20 + z807 = z799 by omega]; exact Ra_s802) (q803).symm (q804).symm J_s802  (by omega)
          · skip
            refine x_A k187_81 (fun _ => rfl) ?_
            refine x_goto k187_82 (t := 86) rfl ?_
            refine x_iadd k187_86 ?_
            refine x_top (fun z808 e_z808 => ?_)
            refine x_istore_n k187_87 (ls' := [(2, vi z808), (3, vi z801), (0, .ref 256), (1, vi x1)]) (by decide) rfl ?_
            refine x_goto k187_88 (t := 43) rfl ?_
            refine x_ls (l := [(0, .ref 256), (1, vi x1), (2, vi z808), (3, vi z801)]) (show ([0, 1, 2, 3] : List Nat).Nodup from by decide +kernel) ⟨rfl, rfl, rfl, rfl, trivial⟩ ?_
            exact ih s802 x1 z808 z801 x1000 x1001 hG_s802 f_s802 (by first | exact x_rb b_x1 rfl rfl | exact ⟨by omega, by omega⟩) (by first | exact x_rbe e_z808 g_z808 rfl rfl | exact x_rb g_z808 rfl rfl | exact ⟨by omega, by omega⟩) (by first | exact x_rbe e_z801 g_z801 rfl rfl | exact x_rb g_z801 rfl rfl | exact ⟨by omega, by omega⟩) (by first | exact x_rb b_x1000 rfl rfl | exact ⟨by omega, by omega⟩) (by first | exact x_rb b_x1001 rfl rfl | exact ⟨by omega, by omega⟩) (by omega) (by omega) (by omega) (by omega) (by omega) (by omega) (by rw [show s0 256 20 + z808 = z799 + 1 by omega]; exact xp_z801.2 (by omega)) (q803).symm (q804).symm J_s802  (by omega)
        · skip
          refine x_A k187_67 (fun _ => rfl) ?_
          refine x_goto k187_68 (t := 72) rfl ?_
          have Ra_i : JRc s750 z799 := by rw [show z799 = s0 256 20 + x2 by omega]; exact Rn_s750
          refine x_callV k187_72 (y := 186) (n := 2) (w0 := 0) (w1 := 2) (as := [vi z799, vi 1]) (rest := []) (by decide +kernel) (q := 256) (nq := 62) (kq := 15) ⟨by decide, rfl⟩ rfl rfl rfl rfl (xe_mono (C_X11_readClause_256 s750 hG_s750 z799 (by first | exact x_rbe e_z799 g_z799 rfl rfl | exact x_rb g_z799 rfl rfl | exact ⟨by omega, by omega⟩) 1 ⟨by decide, by decide⟩ Ra_i) ?_)
          rintro s810 v ⟨hG_s810, t_s810, z809, rfl, g_z809, xp_z809, Ra_s810⟩
          have f_s810 : FL [4133, 4136, 4132, 4134, 4135, 5120, 5184, 5248, 4131, 4992, 5056, 4117, 4114] s0 s810 := f_s750.tr t_s810 (by decide +kernel)
          have q811 : s810 256 20 = x1000 := (t_s810 256 20 (show 4117 ∉ [4133, 4136, 4132, 4134, 4135, 5120, 5184, 5248] from by decide +kernel)).trans q751
          have q812 : s810 256 17 = x1001 := (t_s810 256 17 (show 4114 ∉ [4133, 4136, 4132, 4134, 4135, 5120, 5184, 5248] from by decide +kernel)).trans q752
          have q813 : s810 256 34 = z754 := (t_s810 256 34 (show 4131 ∉ [4133, 4136, 4132, 4134, 4135, 5120, 5184, 5248] from by decide +kernel)).trans e_z754.symm
          show xe none 187 75 [(0, .ref 256), (1, vi x1), (2, vi x2), (3, vi x3)] [vi z809] s810 0 0 _
          have J_s810 : J s810 := J.rc J_s750 t_s810 (by decide) Ra_s810 (by omega)
          refine x_istore_n k187_75 (ls' := [(3, vi z809), (0, .ref 256), (1, vi x1), (2, vi x2)]) (by decide) rfl ?_
          refine x_A k187_76 (fun _ => rfl) ?_
          refine x_A k187_77 (fun _ => rfl) ?_
          refine x_if_ne k187_78 (t := 85) rfl (by first | exact x_rbe e_z809 g_z809 rfl rfl | exact x_rb g_z809 rfl rfl | exact ⟨by omega, by omega⟩) (fun c814 => ?_) (fun c814 => ?_)
          · skip
            refine x_A k187_85 (fun _ => rfl) ?_
            refine x_iadd k187_86 ?_
            refine x_top (fun z815 e_z815 => ?_)
            refine x_istore_n k187_87 (ls' := [(2, vi z815), (3, vi z809), (0, .ref 256), (1, vi x1)]) (by decide) rfl ?_
            refine x_goto k187_88 (t := 43) rfl ?_
            refine x_ls (l := [(0, .ref 256), (1, vi x1), (2, vi z815), (3, vi z809)]) (show ([0, 1, 2, 3] : List Nat).Nodup from by decide +kernel) ⟨rfl, rfl, rfl, rfl, trivial⟩ ?_
            exact ih s810 x1 z815 z809 x1000 x1001 hG_s810 f_s810 (by first | exact x_rb b_x1 rfl rfl | exact ⟨by omega, by omega⟩) (by first | exact x_rbe e_z815 g_z815 rfl rfl | exact x_rb g_z815 rfl rfl | exact ⟨by omega, by omega⟩) (by first | exact x_rbe e_z809 g_z809 rfl rfl | exact x_rb g_z809 rfl rfl | exact ⟨by omega, by omega⟩) (by first | exact x_rb b_x1000 rfl rfl | exact ⟨by omega, by omega⟩) (by first | exact x_rb b_x1001 rfl rfl | exact ⟨by omega, by omega⟩) (by omega) (by omega) (by omega) (by omega) (by omega) (by omega) (by rw [show s0 256 20 + z815 = z799 by omega]; exact Ra_s810) (q811).symm (q812).symm J_s810  (by omega)
          · skip
            refine x_A k187_81 (fun _ => rfl) ?_
            refine x_goto k187_82 (t := 86) rfl ?_
            refine x_iadd k187_86 ?_
            refine x_top (fun z816 e_z816 => ?_)
            refine x_istore_n k187_87 (ls' := [(2, vi z816), (3, vi z809), (0, .ref 256), (1, vi x1)]) (by decide) rfl ?_
            refine x_goto k187_88 (t := 43) rfl ?_
            refine x_ls (l := [(0, .ref 256), (1, vi x1), (2, vi z816), (3, vi z809)]) (show ([0, 1, 2, 3] : List Nat).Nodup from by decide +kernel) ⟨rfl, rfl, rfl, rfl, trivial⟩ ?_
            exact ih s810 x1 z816 z809 x1000 x1001 hG_s810 f_s810 (by first | exact x_rb b_x1 rfl rfl | exact ⟨by omega, by omega⟩) (by first | exact x_rbe e_z816 g_z816 rfl rfl | exact x_rb g_z816 rfl rfl | exact ⟨by omega, by omega⟩) (by first | exact x_rbe e_z809 g_z809 rfl rfl | exact x_rb g_z809 rfl rfl | exact ⟨by omega, by omega⟩) (by first | exact x_rb b_x1000 rfl rfl | exact ⟨by omega, by omega⟩) (by first | exact x_rb b_x1001 rfl rfl | exact ⟨by omega, by omega⟩) (by omega) (by omega) (by omega) (by omega) (by omega) (by omega) (by rw [show s0 256 20 + z816 = z799 + 1 by omega]; exact xp_z809.2 (by omega)) (q811).symm (q812).symm J_s810  (by omega)
theorem C_X11_rule_256 (s0 : xS) (hG0 : GI s0) (a : Int) (b_a : (-2147483648) ≤ a ∧ a ≤ 2147483647) (p_256_20 : 0 ≤ s0 256 20 ∧ s0 256 20 ≤ 64) (p_256_17 : 0 ≤ s0 256 17 ∧ s0 256 17 ≤ 8) (i0_J : J s0) : xe none 187 0 (lv_args 0 [.ref 256, vi a]) [] s0 0 0 (fun s' v => GI s' ∧ FL [4133, 4136, 4132, 4134, 4135, 5120, 5184, 5248, 4131, 4992, 5056, 4117, 4114] s0 s' ∧ ∃ z, v = some (vi z) ∧ ((-2147483648) ≤ z ∧ z ≤ 2147483647) ∧ J s') := by
  have f0 : FL [4133, 4136, 4132, 4134, 4135, 5120, 5184, 5248, 4131, 4992, 5056, 4117, 4114] s0 s0 := FL.rf
  show xe none 187 0 [(0, .ref 256), (1, vi a)] [] s0 0 0 _
  obtain ⟨z817, e_z817⟩ : ∃ z, z = s0 256 20 := ⟨_, rfl⟩
  have g_z817 : (0 : Int) ≤ s0 256 20 ∧ s0 256 20 ≤ 64 := hG0 256 20
  obtain ⟨z818, e_z818⟩ : ∃ z, z = s0 256 17 := ⟨_, rfl⟩
  have g_z818 : (0 : Int) ≤ s0 256 17 ∧ s0 256 17 ≤ 8 := hG0 256 17
  have jc := i0_J.cl
  refine x_A k187_0 (fun _ => rfl) ?_
  refine x_i2l k187_1 (by first | exact x_rb b_a rfl rfl | exact ⟨by omega, by omega⟩) ?_
  refine x_lconst k187_2 (z := 0) (by decide +kernel) ?_
  refine x_ldc2 k187_3 (z := 9) rfl (by decide +kernel) ?_
  refine x_callS k187_6 (y := 136) (n := 3) (w0 := 0) (w1 := 6) (as := [vj a, vj 0, vj 9]) (rest := []) (by decide +kernel) rfl rfl rfl rfl (xe_mono (C_X11_in s0 hG0 a ⟨by omega, by omega⟩ 0 ⟨by omega, by omega⟩ 9 ⟨by omega, by omega⟩) ?_)
  rintro s820 v ⟨h_s820, z819, rfl, hz_z819⟩
  rw [h_s820]
  rcases hz_z819 with ⟨c_z819, e_z819⟩ | ⟨c_z819, e_z819⟩
  · rw [e_z819]
    show xe none 187 9 [(0, .ref 256), (1, vi a)] [vi 1] s0 0 0 _
    refine x_if_ne k187_9 (t := 16) rfl ⟨by decide, by decide⟩ (fun c821 => ?_) (fun c821 => by exfalso; omega)
    refine x_A k187_16 (fun _ => rfl) ?_
    refine x_getI k187_17 (f := 17) rfl (q := 256) (n := 62) (kd := 15) ⟨by decide, rfl⟩ (by decide) rfl ?_
    rw [e_z818.symm]
    refine x_bipush k187_20 (by decide +kernel) ?_
    refine x_ic_ne k187_22 (t := 29) rfl (by first | exact x_rbe e_z818 g_z818 rfl rfl | exact x_rb g_z818 rfl rfl | exact ⟨by omega, by omega⟩) ⟨by decide, by decide⟩ (fun c822 => ?_) (fun c822 => ?_)
    · skip
      refine x_A k187_29 (fun _ => rfl) ?_
      refine x_A k187_30 (fun _ => rfl) ?_
      refine x_putI k187_31 (f := 35) rfl (q := 256) (n := 62) (kd := 15) ⟨by decide, rfl⟩ rfl rfl rfl ?_
      refine x_nh (fun s823 e_s823 => ?_)
      have hG_s823 : GI s823 := by rw [e_s823]; exact hG0.up (show (-2147483648) ≤ (-1) ∧ (-1) ≤ 2147483647 from ⟨by decide, by decide⟩)
      have f_s823 : FL [4133, 4136, 4132, 4134, 4135, 5120, 5184, 5248, 4131, 4992, 5056, 4117, 4114] s0 s823 := by rw [e_s823]; exact f0.up (show 4132 ∈ [4133, 4136, 4132, 4134, 4135, 5120, 5184, 5248, 4131, 4992, 5056, 4117, 4114] from by decide +kernel)
      have q824 : s823 256 20 = z817 := by rw [e_s823, x_up_i (by decide)]; exact e_z817.symm
      have q825 : s823 256 17 = z818 := by rw [e_s823, x_up_i (by decide)]; exact e_z818.symm
      have q826 : s823 256 35 = (-1) := by rw [e_s823]; exact x_up_same
      have J_s823 : J s823 := by rw [e_s823]; exact J.up i0_J (show 4132 ∉ LJ from by decide)
      refine x_A k187_34 (fun _ => rfl) ?_
      refine x_A k187_35 (fun _ => rfl) ?_
      refine x_putI k187_36 (f := 36) rfl (q := 256) (n := 62) (kd := 15) ⟨by decide, rfl⟩ rfl rfl rfl ?_
      refine x_nh (fun s827 e_s827 => ?_)
      have hG_s827 : GI s827 := by rw [e_s827]; exact hG_s823.up (show 0 ≤ 0 ∧ 0 ≤ 160 from ⟨by decide, by decide⟩)
      have f_s827 : FL [4133, 4136, 4132, 4134, 4135, 5120, 5184, 5248, 4131, 4992, 5056, 4117, 4114] s0 s827 := by rw [e_s827]; exact f_s823.up (show 4133 ∈ [4133, 4136, 4132, 4134, 4135, 5120, 5184, 5248, 4131, 4992, 5056, 4117, 4114] from by decide +kernel)
      have q828 : s827 256 20 = z817 := by rw [e_s827, x_up_i (by decide)]; exact q824
      have q829 : s827 256 17 = z818 := by rw [e_s827, x_up_i (by decide)]; exact q825
      have q830 : s827 256 35 = (-1) := by rw [e_s827, x_up_i (by decide)]; exact q826
      have q831 : s827 256 36 = 0 := by rw [e_s827]; exact x_up_same
      have J_s827 : J s827 := by rw [e_s827]; exact J.up J_s823 (show 4133 ∉ LJ from by decide)
      refine x_A k187_39 (fun _ => rfl) ?_
      refine x_istore_n k187_40 (ls' := [(2, vi 0), (0, .ref 256), (1, vi a)]) (by decide) rfl ?_
      refine x_A k187_41 (fun _ => rfl) ?_
      refine x_istore_n k187_42 (ls' := [(3, vi 0), (2, vi 0), (0, .ref 256), (1, vi a)]) (by decide) rfl ?_
      refine x_ls (l := [(0, .ref 256), (1, vi a), (2, vi 0), (3, vi 0)]) (show ([0, 1, 2, 3] : List Nat).Nodup from by decide +kernel) ⟨rfl, rfl, rfl, rfl, trivial⟩ ?_
      exact L_C_X11_rule_256_43 s0 a b_a  (((40 - 2 * 0 - 0) + 1 : Int)).toNat s827 a 0 0 z817 z818 hG_s827 f_s827 (by first | exact x_rb b_a rfl rfl | exact ⟨by omega, by omega⟩) ⟨by decide, by decide⟩ ⟨by decide, by decide⟩ (by first | exact x_rbe e_z817 g_z817 rfl rfl | exact x_rb g_z817 rfl rfl | exact ⟨by omega, by omega⟩) (by first | exact x_rbe e_z818 g_z818 rfl rfl | exact x_rb g_z818 rfl rfl | exact ⟨by omega, by omega⟩) (by omega) (by omega) (by omega) (by omega) (by omega) (by omega) (by rw [show s0 256 20 + 0 = s0 256 20 by omega, ← show s827 256 20 = s0 256 20 by omega]; exact J_s827.2.2.2.2.2.1) (q828).symm (q829).symm J_s827  (by omega)
    · skip
      refine x_sipush k187_25 (by decide +kernel) ?_
      exact x_iret k187_28 rfl ⟨hG0, f0, (-1004), rfl, ⟨by decide, by decide⟩, i0_J⟩
  · rw [e_z819]
    show xe none 187 9 [(0, .ref 256), (1, vi a)] [vi 0] s0 0 0 _
    refine x_if_ne k187_9 (t := 16) rfl ⟨by decide, by decide⟩ (fun c832 => by exfalso; omega) (fun c832 => ?_)
    refine x_sipush k187_12 (by decide +kernel) ?_
    exact x_iret k187_15 rfl ⟨hG0, f0, (-1002), rfl, ⟨by decide, by decide⟩, i0_J⟩
