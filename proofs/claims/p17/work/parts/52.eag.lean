set_option maxHeartbeats 8000000 in
theorem E_X4_readSense_177 (s0 : xS) (hG0 : GI s0) (i0_TK : TKs s0) : xe none 40 0 (lv_args 0 [.ref 177]) [] s0 0 0 (fun s' v => GI s' ∧ FL [1219, 1220, 1221, 1222, 1223] s0 s' ∧ ∃ z, v = some (vi z) ∧ ((-1) ≤ z ∧ z ≤ 2) ∧ (SeC s0 s' 1 z ∧ (s' 177 5 = 0 → s0 177 5 = 0)) ∧ TKs s') := by
  have f0 : FL [1219, 1220, 1221, 1222, 1223] s0 s0 := FL.rf
  show xe none 40 0 [(0, .ref 177)] [] s0 0 0 _
  have tk := i0_TK
  unfold TKs TK at tk
  have tl := te_le (T := s0 178) (n := s0 177 1) (p := s0 177 3)
  obtain ⟨z1, e_z1⟩ : ∃ z, z = s0 177 3 := ⟨_, rfl⟩
  have g_z1 : (0 : Int) ≤ s0 177 3 ∧ s0 177 3 ≤ 160 := hG0 177 3
  obtain ⟨z2, e_z2⟩ : ∃ z, z = s0 177 5 := ⟨_, rfl⟩
  have g_z2 : (0 : Int) ≤ s0 177 5 ∧ s0 177 5 ≤ 5 := hG0 177 5
  obtain ⟨z3, e_z3⟩ : ∃ z, z = s0 177 6 := ⟨_, rfl⟩
  have g_z3 : (-2147483648) ≤ s0 177 6 ∧ s0 177 6 ≤ 2147483647 := hG0 177 6
  refine x_A k40_0 (fun _ => rfl) ?_
  refine x_istore_n k40_1 (ls' := [(1, vi (-1)), (0, .ref 177)]) (by decide) rfl ?_
  refine x_A k40_2 (fun _ => rfl) ?_
  refine x_ldcR k40_3 (q := 2017) rfl ?_
  refine x_callV k40_5 (y := 53) (n := 1) (w0 := 0) (w1 := 1) (as := [.ref 2017]) (rest := []) (by decide +kernel) (q := 177) (nq := 7) (kq := 7) ⟨by decide, rfl⟩ rfl rfl rfl rfl (xe_mono (E_X6_isWord_177_2017 s0 hG0 i0_TK) ?_)
  rintro s5 v ⟨-, t_s5, z4, rfl, g_z4, xp_z4⟩
  rw [t_s5.nil]
  try rw [t_s5.nil] at xp_z4
  show xe none 40 8 [(1, vi (-1)), (0, .ref 177)] [vi z4] s0 0 0 _
  refine x_if_eq k40_8 (t := 13) rfl (by first | exact x_rbe e_z4 g_z4 rfl rfl | exact x_rb g_z4 rfl rfl | exact ⟨by omega, by omega⟩) (fun c6 => ?_) (fun c6 => ?_)
  · skip
    refine x_A k40_13 (fun _ => rfl) ?_
    refine x_ldcR k40_14 (q := 2018) rfl ?_
    refine x_callV k40_16 (y := 53) (n := 1) (w0 := 0) (w1 := 1) (as := [.ref 2018]) (rest := []) (by decide +kernel) (q := 177) (nq := 7) (kq := 7) ⟨by decide, rfl⟩ rfl rfl rfl rfl (xe_mono (E_X6_isWord_177_2018 s0 hG0 i0_TK) ?_)
    rintro s8 v ⟨-, t_s8, z7, rfl, g_z7, xp_z7⟩
    rw [t_s8.nil]
    try rw [t_s8.nil] at xp_z7
    show xe none 40 19 [(1, vi (-1)), (0, .ref 177)] [vi z7] s0 0 0 _
    refine x_if_eq k40_19 (t := 24) rfl (by first | exact x_rbe e_z7 g_z7 rfl rfl | exact x_rb g_z7 rfl rfl | exact ⟨by omega, by omega⟩) (fun c9 => ?_) (fun c9 => ?_)
    · skip
      refine x_A k40_24 (fun _ => rfl) ?_
      refine x_ldcR k40_25 (q := 2019) rfl ?_
      refine x_callV k40_27 (y := 53) (n := 1) (w0 := 0) (w1 := 1) (as := [.ref 2019]) (rest := []) (by decide +kernel) (q := 177) (nq := 7) (kq := 7) ⟨by decide, rfl⟩ rfl rfl rfl rfl (xe_mono (E_X6_isWord_177_2019 s0 hG0 i0_TK) ?_)
      rintro s11 v ⟨-, t_s11, z10, rfl, g_z10, xp_z10⟩
      rw [t_s11.nil]
      try rw [t_s11.nil] at xp_z10
      show xe none 40 30 [(1, vi (-1)), (0, .ref 177)] [vi z10] s0 0 0 _
      refine x_if_eq k40_30 (t := 35) rfl (by first | exact x_rbe e_z10 g_z10 rfl rfl | exact x_rb g_z10 rfl rfl | exact ⟨by omega, by omega⟩) (fun c12 => ?_) (fun c12 => ?_)
      · skip
        refine x_A k40_35 (fun _ => rfl) ?_
        refine x_A k40_36 (fun _ => rfl) ?_
        refine x_ic_ne k40_37 (t := 49) rfl ⟨by decide, by decide⟩ ⟨by decide, by decide⟩ (fun c13 => by exfalso; omega) (fun c13 => ?_)
        refine x_A k40_40 (fun _ => rfl) ?_
        refine x_A k40_41 (fun _ => rfl) ?_
        refine x_A k40_42 (fun _ => rfl) ?_
        refine x_getI k40_43 (f := 3) rfl (q := 177) (n := 7) (kd := 7) ⟨by decide, rfl⟩ (by decide) rfl ?_
        refine x_rw (e_z1.symm) ?_
        refine x_callV k40_46 (y := 52) (n := 2) (w0 := 0) (w1 := 2) (as := [vi 1, vi z1]) (rest := []) (by decide +kernel) (q := 177) (nq := 7) (kq := 7) ⟨by decide, rfl⟩ rfl rfl rfl rfl (xe_mono (E_X6_fail_177 s0 hG0 1 ⟨by decide, by decide⟩ z1 (by first | exact x_rbe e_z1 g_z1 rfl rfl | exact x_rb g_z1 rfl rfl | exact ⟨by omega, by omega⟩)) ?_)
        rintro s15 v ⟨hG_s15, t_s15, rfl, xp_z14⟩
        have f_s15 : FL [1219, 1220, 1221, 1222, 1223] s0 s15 := f0.tr t_s15 (by decide +kernel)
        have q16 : s15 177 3 = z1 := (t_s15 177 3 (show 1220 ∉ [1222, 1223] from by decide +kernel)).trans e_z1.symm
        have TK_s15 : TKs s15 := TKs.fl i0_TK t_s15 (by decide +kernel)
        obtain ⟨z17, e_z17⟩ : ∃ z, z = s15 177 5 := ⟨_, rfl⟩
        have g_z17 : (0 : Int) ≤ s15 177 5 ∧ s15 177 5 ≤ 5 := hG_s15 177 5
        obtain ⟨z18, e_z18⟩ : ∃ z, z = s15 177 6 := ⟨_, rfl⟩
        have g_z18 : (-2147483648) ≤ s15 177 6 ∧ s15 177 6 ≤ 2147483647 := hG_s15 177 6
        show xe none 40 49 [(1, vi (-1)), (0, .ref 177)] [] s15 0 0 _
        refine x_A k40_49 (fun _ => rfl) ?_
        refine x_getI k40_50 (f := 5) rfl (q := 177) (n := 7) (kd := 7) ⟨by decide, rfl⟩ (by decide) rfl ?_
        refine x_rw (e_z17.symm) ?_
        refine x_if_ne k40_53 (t := 60) rfl (by first | exact x_rbe e_z17 g_z17 rfl rfl | exact x_rb g_z17 rfl rfl | exact ⟨by omega, by omega⟩) (fun c19 => ?_) (fun c19 => by exfalso; omega)
        refine x_A k40_60 (fun _ => rfl) ?_
        exact x_iret k40_61 rfl ⟨hG_s15, f_s15, (-1), rfl, ⟨by decide, by decide⟩, ⟨(by have sc := sns_cs (s0 178) (s0 177 1) (s0 177 3); have s1 := s2_1 (s0 178) (s0 177 1) (s0 177 3); unfold SeC SeR; unfold nx at s1; omega), by omega⟩, TK_s15⟩
      · skip
        refine x_A k40_33 (fun _ => rfl) ?_
        refine x_istore_n k40_34 (ls' := [(1, vi 2), (0, .ref 177)]) (by decide) rfl ?_
        refine x_A k40_35 (fun _ => rfl) ?_
        refine x_A k40_36 (fun _ => rfl) ?_
        refine x_ic_ne k40_37 (t := 49) rfl ⟨by decide, by decide⟩ ⟨by decide, by decide⟩ (fun c20 => ?_) (fun c20 => by exfalso; omega)
        refine x_A k40_49 (fun _ => rfl) ?_
        refine x_getI k40_50 (f := 5) rfl (q := 177) (n := 7) (kd := 7) ⟨by decide, rfl⟩ (by decide) rfl ?_
        refine x_rw (e_z2.symm) ?_
        refine x_if_ne k40_53 (t := 60) rfl (by first | exact x_rbe e_z2 g_z2 rfl rfl | exact x_rb g_z2 rfl rfl | exact ⟨by omega, by omega⟩) (fun c21 => ?_) (fun c21 => ?_)
        · skip
          refine x_A k40_60 (fun _ => rfl) ?_
          exact x_iret k40_61 rfl ⟨hG0, f0, 2, rfl, ⟨by decide, by decide⟩, ⟨(by have sc := sns_cs (s0 178) (s0 177 1) (s0 177 3); have s1 := s2_1 (s0 178) (s0 177 1) (s0 177 3); unfold SeC SeR; unfold nx at s1; omega), by omega⟩, i0_TK⟩
        · skip
          refine x_A k40_56 (fun _ => rfl) ?_
          obtain ⟨z22, e_z22⟩ : ∃ z, z = s0 177 1 := ⟨_, rfl⟩
          have g_z22 : (0 : Int) ≤ s0 177 1 ∧ s0 177 1 ≤ 160 := hG0 177 1
          obtain ⟨z23, e_z23⟩ : ∃ z, z = s0 177 4 := ⟨_, rfl⟩
          have g_z23 : (0 : Int) ≤ s0 177 4 ∧ s0 177 4 ≤ 160 := hG0 177 4
          refine x_callV k40_57 (y := 51) (n := 0) (w0 := 0) (w1 := 0) (as := []) (rest := []) (by decide +kernel) (q := 177) (nq := 7) (kq := 7) ⟨by decide, rfl⟩ rfl rfl rfl rfl (xe_mono (E_X6_advance_177 s0 hG0 (by omega)) ?_)
          rintro s25 v ⟨hG_s25, t_s25, rfl, xp_z24⟩
          have f_s25 : FL [1219, 1220, 1221, 1222, 1223] s0 s25 := f0.tr t_s25 (by decide +kernel)
          have q26 : s25 177 5 = z2 := (t_s25 177 5 (show 1222 ∉ [1219, 1220, 1221] from by decide +kernel)).trans e_z2.symm
          have q27 : s25 177 6 = z3 := (t_s25 177 6 (show 1223 ∉ [1219, 1220, 1221] from by decide +kernel)).trans e_z3.symm
          have q28 : s25 177 1 = z22 := (t_s25 177 1 (show 1218 ∉ [1219, 1220, 1221] from by decide +kernel)).trans e_z22.symm
          show xe none 40 60 [(1, vi 2), (0, .ref 177)] [] s25 0 0 _
          have tq29 := xp_z24
          rw [show s0 177 4 = te (s0 178) (s0 177 1) (s0 177 3) by omega] at tq29
          have TK_s25 : TKs s25 := TK.s tq29 (show s25 178 = s0 178 from funext fun i => f_s25 178 i (show 1280 ∉ [1219, 1220, 1221, 1222, 1223] from by decide +kernel)) (by omega)
          unfold TK at tq29
          refine x_A k40_60 (fun _ => rfl) ?_
          obtain ⟨z30, e_z30⟩ : ∃ z, z = s25 177 3 := ⟨_, rfl⟩
          have g_z30 : (0 : Int) ≤ s25 177 3 ∧ s25 177 3 ≤ 160 := hG_s25 177 3
          exact x_iret k40_61 rfl ⟨hG_s25, f_s25, 2, rfl, ⟨by decide, by decide⟩, ⟨(by have sc := sns_cs (s0 178) (s0 177 1) (s0 177 3); have s1 := s2_1 (s0 178) (s0 177 1) (s0 177 3); unfold SeC SeR; unfold nx at s1; omega), by omega⟩, TK_s25⟩
    · skip
      refine x_A k40_22 (fun _ => rfl) ?_
      refine x_istore_n k40_23 (ls' := [(1, vi 1), (0, .ref 177)]) (by decide) rfl ?_
      refine x_A k40_24 (fun _ => rfl) ?_
      refine x_ldcR k40_25 (q := 2019) rfl ?_
      refine x_callV k40_27 (y := 53) (n := 1) (w0 := 0) (w1 := 1) (as := [.ref 2019]) (rest := []) (by decide +kernel) (q := 177) (nq := 7) (kq := 7) ⟨by decide, rfl⟩ rfl rfl rfl rfl (xe_mono (E_X6_isWord_177_2019 s0 hG0 i0_TK) ?_)
      rintro s32 v ⟨-, t_s32, z31, rfl, g_z31, xp_z31⟩
      rw [t_s32.nil]
      try rw [t_s32.nil] at xp_z31
      show xe none 40 30 [(1, vi 1), (0, .ref 177)] [vi z31] s0 0 0 _
      refine x_if_eq k40_30 (t := 35) rfl (by first | exact x_rbe e_z31 g_z31 rfl rfl | exact x_rb g_z31 rfl rfl | exact ⟨by omega, by omega⟩) (fun c33 => ?_) (fun c33 => ?_)
      · skip
        refine x_A k40_35 (fun _ => rfl) ?_
        refine x_A k40_36 (fun _ => rfl) ?_
        refine x_ic_ne k40_37 (t := 49) rfl ⟨by decide, by decide⟩ ⟨by decide, by decide⟩ (fun c34 => ?_) (fun c34 => by exfalso; omega)
        refine x_A k40_49 (fun _ => rfl) ?_
        refine x_getI k40_50 (f := 5) rfl (q := 177) (n := 7) (kd := 7) ⟨by decide, rfl⟩ (by decide) rfl ?_
        refine x_rw (e_z2.symm) ?_
        refine x_if_ne k40_53 (t := 60) rfl (by first | exact x_rbe e_z2 g_z2 rfl rfl | exact x_rb g_z2 rfl rfl | exact ⟨by omega, by omega⟩) (fun c35 => ?_) (fun c35 => ?_)
        · skip
          refine x_A k40_60 (fun _ => rfl) ?_
          exact x_iret k40_61 rfl ⟨hG0, f0, 1, rfl, ⟨by decide, by decide⟩, ⟨(by have sc := sns_cs (s0 178) (s0 177 1) (s0 177 3); have s1 := s2_1 (s0 178) (s0 177 1) (s0 177 3); unfold SeC SeR; unfold nx at s1; omega), by omega⟩, i0_TK⟩
        · skip
          refine x_A k40_56 (fun _ => rfl) ?_
          obtain ⟨z36, e_z36⟩ : ∃ z, z = s0 177 1 := ⟨_, rfl⟩
          have g_z36 : (0 : Int) ≤ s0 177 1 ∧ s0 177 1 ≤ 160 := hG0 177 1
          obtain ⟨z37, e_z37⟩ : ∃ z, z = s0 177 4 := ⟨_, rfl⟩
          have g_z37 : (0 : Int) ≤ s0 177 4 ∧ s0 177 4 ≤ 160 := hG0 177 4
          refine x_callV k40_57 (y := 51) (n := 0) (w0 := 0) (w1 := 0) (as := []) (rest := []) (by decide +kernel) (q := 177) (nq := 7) (kq := 7) ⟨by decide, rfl⟩ rfl rfl rfl rfl (xe_mono (E_X6_advance_177 s0 hG0 (by omega)) ?_)
          rintro s39 v ⟨hG_s39, t_s39, rfl, xp_z38⟩
          have f_s39 : FL [1219, 1220, 1221, 1222, 1223] s0 s39 := f0.tr t_s39 (by decide +kernel)
          have q40 : s39 177 5 = z2 := (t_s39 177 5 (show 1222 ∉ [1219, 1220, 1221] from by decide +kernel)).trans e_z2.symm
          have q41 : s39 177 6 = z3 := (t_s39 177 6 (show 1223 ∉ [1219, 1220, 1221] from by decide +kernel)).trans e_z3.symm
          have q42 : s39 177 1 = z36 := (t_s39 177 1 (show 1218 ∉ [1219, 1220, 1221] from by decide +kernel)).trans e_z36.symm
          show xe none 40 60 [(1, vi 1), (0, .ref 177)] [] s39 0 0 _
          have tq43 := xp_z38
          rw [show s0 177 4 = te (s0 178) (s0 177 1) (s0 177 3) by omega] at tq43
          have TK_s39 : TKs s39 := TK.s tq43 (show s39 178 = s0 178 from funext fun i => f_s39 178 i (show 1280 ∉ [1219, 1220, 1221, 1222, 1223] from by decide +kernel)) (by omega)
          unfold TK at tq43
          refine x_A k40_60 (fun _ => rfl) ?_
          obtain ⟨z44, e_z44⟩ : ∃ z, z = s39 177 3 := ⟨_, rfl⟩
          have g_z44 : (0 : Int) ≤ s39 177 3 ∧ s39 177 3 ≤ 160 := hG_s39 177 3
          exact x_iret k40_61 rfl ⟨hG_s39, f_s39, 1, rfl, ⟨by decide, by decide⟩, ⟨(by have sc := sns_cs (s0 178) (s0 177 1) (s0 177 3); have s1 := s2_1 (s0 178) (s0 177 1) (s0 177 3); unfold SeC SeR; unfold nx at s1; omega), by omega⟩, TK_s39⟩
      · skip
        refine x_A k40_33 (fun _ => rfl) ?_
        refine x_istore_n k40_34 (ls' := [(1, vi 2), (0, .ref 177)]) (by decide) rfl ?_
        refine x_A k40_35 (fun _ => rfl) ?_
        refine x_A k40_36 (fun _ => rfl) ?_
        refine x_ic_ne k40_37 (t := 49) rfl ⟨by decide, by decide⟩ ⟨by decide, by decide⟩ (fun c45 => ?_) (fun c45 => by exfalso; omega)
        refine x_A k40_49 (fun _ => rfl) ?_
        refine x_getI k40_50 (f := 5) rfl (q := 177) (n := 7) (kd := 7) ⟨by decide, rfl⟩ (by decide) rfl ?_
        refine x_rw (e_z2.symm) ?_
        refine x_if_ne k40_53 (t := 60) rfl (by first | exact x_rbe e_z2 g_z2 rfl rfl | exact x_rb g_z2 rfl rfl | exact ⟨by omega, by omega⟩) (fun c46 => ?_) (fun c46 => ?_)
        · skip
          refine x_A k40_60 (fun _ => rfl) ?_
          exact x_iret k40_61 rfl ⟨hG0, f0, 2, rfl, ⟨by decide, by decide⟩, ⟨(by have sc := sns_cs (s0 178) (s0 177 1) (s0 177 3); have s1 := s2_1 (s0 178) (s0 177 1) (s0 177 3); unfold SeC SeR; unfold nx at s1; omega), by omega⟩, i0_TK⟩
        · skip
          refine x_A k40_56 (fun _ => rfl) ?_
          obtain ⟨z47, e_z47⟩ : ∃ z, z = s0 177 1 := ⟨_, rfl⟩
          have g_z47 : (0 : Int) ≤ s0 177 1 ∧ s0 177 1 ≤ 160 := hG0 177 1
          obtain ⟨z48, e_z48⟩ : ∃ z, z = s0 177 4 := ⟨_, rfl⟩
          have g_z48 : (0 : Int) ≤ s0 177 4 ∧ s0 177 4 ≤ 160 := hG0 177 4
          refine x_callV k40_57 (y := 51) (n := 0) (w0 := 0) (w1 := 0) (as := []) (rest := []) (by decide +kernel) (q := 177) (nq := 7) (kq := 7) ⟨by decide, rfl⟩ rfl rfl rfl rfl (xe_mono (E_X6_advance_177 s0 hG0 (by omega)) ?_)
          rintro s50 v ⟨hG_s50, t_s50, rfl, xp_z49⟩
          have f_s50 : FL [1219, 1220, 1221, 1222, 1223] s0 s50 := f0.tr t_s50 (by decide +kernel)
          have q51 : s50 177 5 = z2 := (t_s50 177 5 (show 1222 ∉ [1219, 1220, 1221] from by decide +kernel)).trans e_z2.symm
          have q52 : s50 177 6 = z3 := (t_s50 177 6 (show 1223 ∉ [1219, 1220, 1221] from by decide +kernel)).trans e_z3.symm
          have q53 : s50 177 1 = z47 := (t_s50 177 1 (show 1218 ∉ [1219, 1220, 1221] from by decide +kernel)).trans e_z47.symm
          show xe none 40 60 [(1, vi 2), (0, .ref 177)] [] s50 0 0 _
          have tq54 := xp_z49
          rw [show s0 177 4 = te (s0 178) (s0 177 1) (s0 177 3) by omega] at tq54
          have TK_s50 : TKs s50 := TK.s tq54 (show s50 178 = s0 178 from funext fun i => f_s50 178 i (show 1280 ∉ [1219, 1220, 1221, 1222, 1223] from by decide +kernel)) (by omega)
          unfold TK at tq54
          refine x_A k40_60 (fun _ => rfl) ?_
          obtain ⟨z55, e_z55⟩ : ∃ z, z = s50 177 3 := ⟨_, rfl⟩
          have g_z55 : (0 : Int) ≤ s50 177 3 ∧ s50 177 3 ≤ 160 := hG_s50 177 3
          exact x_iret k40_61 rfl ⟨hG_s50, f_s50, 2, rfl, ⟨by decide, by decide⟩, ⟨(by have sc := sns_cs (s0 178) (s0 177 1) (s0 177 3); have s1 := s2_1 (s0 178) (s0 177 1) (s0 177 3); unfold SeC SeR; unfold nx at s1; omega), by omega⟩, TK_s50⟩
  · skip
    refine x_A k40_11 (fun _ => rfl) ?_
    refine x_istore_n k40_12 (ls' := [(1, vi 0), (0, .ref 177)]) (by decide) rfl ?_
    refine x_A k40_13 (fun _ => rfl) ?_
    refine x_ldcR k40_14 (q := 2018) rfl ?_
    refine x_callV k40_16 (y := 53) (n := 1) (w0 := 0) (w1 := 1) (as := [.ref 2018]) (rest := []) (by decide +kernel) (q := 177) (nq := 7) (kq := 7) ⟨by decide, rfl⟩ rfl rfl rfl rfl (xe_mono (E_X6_isWord_177_2018 s0 hG0 i0_TK) ?_)
    rintro s57 v ⟨-, t_s57, z56, rfl, g_z56, xp_z56⟩
    rw [t_s57.nil]
    try rw [t_s57.nil] at xp_z56
    show xe none 40 19 [(1, vi 0), (0, .ref 177)] [vi z56] s0 0 0 _
    refine x_if_eq k40_19 (t := 24) rfl (by first | exact x_rbe e_z56 g_z56 rfl rfl | exact x_rb g_z56 rfl rfl | exact ⟨by omega, by omega⟩) (fun c58 => ?_) (fun c58 => ?_)
    · skip
      refine x_A k40_24 (fun _ => rfl) ?_
      refine x_ldcR k40_25 (q := 2019) rfl ?_
      refine x_callV k40_27 (y := 53) (n := 1) (w0 := 0) (w1 := 1) (as := [.ref 2019]) (rest := []) (by decide +kernel) (q := 177) (nq := 7) (kq := 7) ⟨by decide, rfl⟩ rfl rfl rfl rfl (xe_mono (E_X6_isWord_177_2019 s0 hG0 i0_TK) ?_)
      rintro s60 v ⟨-, t_s60, z59, rfl, g_z59, xp_z59⟩
      rw [t_s60.nil]
      try rw [t_s60.nil] at xp_z59
      show xe none 40 30 [(1, vi 0), (0, .ref 177)] [vi z59] s0 0 0 _
      refine x_if_eq k40_30 (t := 35) rfl (by first | exact x_rbe e_z59 g_z59 rfl rfl | exact x_rb g_z59 rfl rfl | exact ⟨by omega, by omega⟩) (fun c61 => ?_) (fun c61 => ?_)
      · skip
        refine x_A k40_35 (fun _ => rfl) ?_
        refine x_A k40_36 (fun _ => rfl) ?_
        refine x_ic_ne k40_37 (t := 49) rfl ⟨by decide, by decide⟩ ⟨by decide, by decide⟩ (fun c62 => ?_) (fun c62 => by exfalso; omega)
        refine x_A k40_49 (fun _ => rfl) ?_
        refine x_getI k40_50 (f := 5) rfl (q := 177) (n := 7) (kd := 7) ⟨by decide, rfl⟩ (by decide) rfl ?_
        refine x_rw (e_z2.symm) ?_
        refine x_if_ne k40_53 (t := 60) rfl (by first | exact x_rbe e_z2 g_z2 rfl rfl | exact x_rb g_z2 rfl rfl | exact ⟨by omega, by omega⟩) (fun c63 => ?_) (fun c63 => ?_)
        · skip
          refine x_A k40_60 (fun _ => rfl) ?_
          exact x_iret k40_61 rfl ⟨hG0, f0, 0, rfl, ⟨by decide, by decide⟩, ⟨(by have sc := sns_cs (s0 178) (s0 177 1) (s0 177 3); have s1 := s2_1 (s0 178) (s0 177 1) (s0 177 3); unfold SeC SeR; unfold nx at s1; omega), by omega⟩, i0_TK⟩
        · skip
          refine x_A k40_56 (fun _ => rfl) ?_
          obtain ⟨z64, e_z64⟩ : ∃ z, z = s0 177 1 := ⟨_, rfl⟩
          have g_z64 : (0 : Int) ≤ s0 177 1 ∧ s0 177 1 ≤ 160 := hG0 177 1
          obtain ⟨z65, e_z65⟩ : ∃ z, z = s0 177 4 := ⟨_, rfl⟩
          have g_z65 : (0 : Int) ≤ s0 177 4 ∧ s0 177 4 ≤ 160 := hG0 177 4
          refine x_callV k40_57 (y := 51) (n := 0) (w0 := 0) (w1 := 0) (as := []) (rest := []) (by decide +kernel) (q := 177) (nq := 7) (kq := 7) ⟨by decide, rfl⟩ rfl rfl rfl rfl (xe_mono (E_X6_advance_177 s0 hG0 (by omega)) ?_)
          rintro s67 v ⟨hG_s67, t_s67, rfl, xp_z66⟩
          have f_s67 : FL [1219, 1220, 1221, 1222, 1223] s0 s67 := f0.tr t_s67 (by decide +kernel)
          have q68 : s67 177 5 = z2 := (t_s67 177 5 (show 1222 ∉ [1219, 1220, 1221] from by decide +kernel)).trans e_z2.symm
          have q69 : s67 177 6 = z3 := (t_s67 177 6 (show 1223 ∉ [1219, 1220, 1221] from by decide +kernel)).trans e_z3.symm
          have q70 : s67 177 1 = z64 := (t_s67 177 1 (show 1218 ∉ [1219, 1220, 1221] from by decide +kernel)).trans e_z64.symm
          show xe none 40 60 [(1, vi 0), (0, .ref 177)] [] s67 0 0 _
          have tq71 := xp_z66
          rw [show s0 177 4 = te (s0 178) (s0 177 1) (s0 177 3) by omega] at tq71
          have TK_s67 : TKs s67 := TK.s tq71 (show s67 178 = s0 178 from funext fun i => f_s67 178 i (show 1280 ∉ [1219, 1220, 1221, 1222, 1223] from by decide +kernel)) (by omega)
          unfold TK at tq71
          refine x_A k40_60 (fun _ => rfl) ?_
          obtain ⟨z72, e_z72⟩ : ∃ z, z = s67 177 3 := ⟨_, rfl⟩
          have g_z72 : (0 : Int) ≤ s67 177 3 ∧ s67 177 3 ≤ 160 := hG_s67 177 3
          exact x_iret k40_61 rfl ⟨hG_s67, f_s67, 0, rfl, ⟨by decide, by decide⟩, ⟨(by have sc := sns_cs (s0 178) (s0 177 1) (s0 177 3); have s1 := s2_1 (s0 178) (s0 177 1) (s0 177 3); unfold SeC SeR; unfold nx at s1; omega), by omega⟩, TK_s67⟩
      · skip
        refine x_A k40_33 (fun _ => rfl) ?_
        refine x_istore_n k40_34 (ls' := [(1, vi 2), (0, .ref 177)]) (by decide) rfl ?_
        refine x_A k40_35 (fun _ => rfl) ?_
        refine x_A k40_36 (fun _ => rfl) ?_
        refine x_ic_ne k40_37 (t := 49) rfl ⟨by decide, by decide⟩ ⟨by decide, by decide⟩ (fun c73 => ?_) (fun c73 => by exfalso; omega)
        refine x_A k40_49 (fun _ => rfl) ?_
        refine x_getI k40_50 (f := 5) rfl (q := 177) (n := 7) (kd := 7) ⟨by decide, rfl⟩ (by decide) rfl ?_
        refine x_rw (e_z2.symm) ?_
        refine x_if_ne k40_53 (t := 60) rfl (by first | exact x_rbe e_z2 g_z2 rfl rfl | exact x_rb g_z2 rfl rfl | exact ⟨by omega, by omega⟩) (fun c74 => ?_) (fun c74 => ?_)
        · skip
          refine x_A k40_60 (fun _ => rfl) ?_
          exact x_iret k40_61 rfl ⟨hG0, f0, 2, rfl, ⟨by decide, by decide⟩, ⟨(by have sc := sns_cs (s0 178) (s0 177 1) (s0 177 3); have s1 := s2_1 (s0 178) (s0 177 1) (s0 177 3); unfold SeC SeR; unfold nx at s1; omega), by omega⟩, i0_TK⟩
        · skip
          refine x_A k40_56 (fun _ => rfl) ?_
          obtain ⟨z75, e_z75⟩ : ∃ z, z = s0 177 1 := ⟨_, rfl⟩
          have g_z75 : (0 : Int) ≤ s0 177 1 ∧ s0 177 1 ≤ 160 := hG0 177 1
          obtain ⟨z76, e_z76⟩ : ∃ z, z = s0 177 4 := ⟨_, rfl⟩
          have g_z76 : (0 : Int) ≤ s0 177 4 ∧ s0 177 4 ≤ 160 := hG0 177 4
          refine x_callV k40_57 (y := 51) (n := 0) (w0 := 0) (w1 := 0) (as := []) (rest := []) (by decide +kernel) (q := 177) (nq := 7) (kq := 7) ⟨by decide, rfl⟩ rfl rfl rfl rfl (xe_mono (E_X6_advance_177 s0 hG0 (by omega)) ?_)
          rintro s78 v ⟨hG_s78, t_s78, rfl, xp_z77⟩
          have f_s78 : FL [1219, 1220, 1221, 1222, 1223] s0 s78 := f0.tr t_s78 (by decide +kernel)
          have q79 : s78 177 5 = z2 := (t_s78 177 5 (show 1222 ∉ [1219, 1220, 1221] from by decide +kernel)).trans e_z2.symm
          have q80 : s78 177 6 = z3 := (t_s78 177 6 (show 1223 ∉ [1219, 1220, 1221] from by decide +kernel)).trans e_z3.symm
          have q81 : s78 177 1 = z75 := (t_s78 177 1 (show 1218 ∉ [1219, 1220, 1221] from by decide +kernel)).trans e_z75.symm
          show xe none 40 60 [(1, vi 2), (0, .ref 177)] [] s78 0 0 _
          have tq82 := xp_z77
          rw [show s0 177 4 = te (s0 178) (s0 177 1) (s0 177 3) by omega] at tq82
          have TK_s78 : TKs s78 := TK.s tq82 (show s78 178 = s0 178 from funext fun i => f_s78 178 i (show 1280 ∉ [1219, 1220, 1221, 1222, 1223] from by decide +kernel)) (by omega)
          unfold TK at tq82
          refine x_A k40_60 (fun _ => rfl) ?_
          obtain ⟨z83, e_z83⟩ : ∃ z, z = s78 177 3 := ⟨_, rfl⟩
          have g_z83 : (0 : Int) ≤ s78 177 3 ∧ s78 177 3 ≤ 160 := hG_s78 177 3
          exact x_iret k40_61 rfl ⟨hG_s78, f_s78, 2, rfl, ⟨by decide, by decide⟩, ⟨(by have sc := sns_cs (s0 178) (s0 177 1) (s0 177 3); have s1 := s2_1 (s0 178) (s0 177 1) (s0 177 3); unfold SeC SeR; unfold nx at s1; omega), by omega⟩, TK_s78⟩
    · skip
      refine x_A k40_22 (fun _ => rfl) ?_
      refine x_istore_n k40_23 (ls' := [(1, vi 1), (0, .ref 177)]) (by decide) rfl ?_
      refine x_A k40_24 (fun _ => rfl) ?_
      refine x_ldcR k40_25 (q := 2019) rfl ?_
      refine x_callV k40_27 (y := 53) (n := 1) (w0 := 0) (w1 := 1) (as := [.ref 2019]) (rest := []) (by decide +kernel) (q := 177) (nq := 7) (kq := 7) ⟨by decide, rfl⟩ rfl rfl rfl rfl (xe_mono (E_X6_isWord_177_2019 s0 hG0 i0_TK) ?_)
      rintro s85 v ⟨-, t_s85, z84, rfl, g_z84, xp_z84⟩
      rw [t_s85.nil]
      try rw [t_s85.nil] at xp_z84
      show xe none 40 30 [(1, vi 1), (0, .ref 177)] [vi z84] s0 0 0 _
      refine x_if_eq k40_30 (t := 35) rfl (by first | exact x_rbe e_z84 g_z84 rfl rfl | exact x_rb g_z84 rfl rfl | exact ⟨by omega, by omega⟩) (fun c86 => ?_) (fun c86 => ?_)
      · skip
        refine x_A k40_35 (fun _ => rfl) ?_
        refine x_A k40_36 (fun _ => rfl) ?_
        refine x_ic_ne k40_37 (t := 49) rfl ⟨by decide, by decide⟩ ⟨by decide, by decide⟩ (fun c87 => ?_) (fun c87 => by exfalso; omega)
        refine x_A k40_49 (fun _ => rfl) ?_
        refine x_getI k40_50 (f := 5) rfl (q := 177) (n := 7) (kd := 7) ⟨by decide, rfl⟩ (by decide) rfl ?_
        refine x_rw (e_z2.symm) ?_
        refine x_if_ne k40_53 (t := 60) rfl (by first | exact x_rbe e_z2 g_z2 rfl rfl | exact x_rb g_z2 rfl rfl | exact ⟨by omega, by omega⟩) (fun c88 => ?_) (fun c88 => ?_)
        · skip
          refine x_A k40_60 (fun _ => rfl) ?_
          exact x_iret k40_61 rfl ⟨hG0, f0, 1, rfl, ⟨by decide, by decide⟩, ⟨(by have sc := sns_cs (s0 178) (s0 177 1) (s0 177 3); have s1 := s2_1 (s0 178) (s0 177 1) (s0 177 3); unfold SeC SeR; unfold nx at s1; omega), by omega⟩, i0_TK⟩
        · skip
          refine x_A k40_56 (fun _ => rfl) ?_
          obtain ⟨z89, e_z89⟩ : ∃ z, z = s0 177 1 := ⟨_, rfl⟩
          have g_z89 : (0 : Int) ≤ s0 177 1 ∧ s0 177 1 ≤ 160 := hG0 177 1
          obtain ⟨z90, e_z90⟩ : ∃ z, z = s0 177 4 := ⟨_, rfl⟩
          have g_z90 : (0 : Int) ≤ s0 177 4 ∧ s0 177 4 ≤ 160 := hG0 177 4
          refine x_callV k40_57 (y := 51) (n := 0) (w0 := 0) (w1 := 0) (as := []) (rest := []) (by decide +kernel) (q := 177) (nq := 7) (kq := 7) ⟨by decide, rfl⟩ rfl rfl rfl rfl (xe_mono (E_X6_advance_177 s0 hG0 (by omega)) ?_)
          rintro s92 v ⟨hG_s92, t_s92, rfl, xp_z91⟩
          have f_s92 : FL [1219, 1220, 1221, 1222, 1223] s0 s92 := f0.tr t_s92 (by decide +kernel)
          have q93 : s92 177 5 = z2 := (t_s92 177 5 (show 1222 ∉ [1219, 1220, 1221] from by decide +kernel)).trans e_z2.symm
          have q94 : s92 177 6 = z3 := (t_s92 177 6 (show 1223 ∉ [1219, 1220, 1221] from by decide +kernel)).trans e_z3.symm
          have q95 : s92 177 1 = z89 := (t_s92 177 1 (show 1218 ∉ [1219, 1220, 1221] from by decide +kernel)).trans e_z89.symm
          show xe none 40 60 [(1, vi 1), (0, .ref 177)] [] s92 0 0 _
          have tq96 := xp_z91
          rw [show s0 177 4 = te (s0 178) (s0 177 1) (s0 177 3) by omega] at tq96
          have TK_s92 : TKs s92 := TK.s tq96 (show s92 178 = s0 178 from funext fun i => f_s92 178 i (show 1280 ∉ [1219, 1220, 1221, 1222, 1223] from by decide +kernel)) (by omega)
          unfold TK at tq96
          refine x_A k40_60 (fun _ => rfl) ?_
          obtain ⟨z97, e_z97⟩ : ∃ z, z = s92 177 3 := ⟨_, rfl⟩
          have g_z97 : (0 : Int) ≤ s92 177 3 ∧ s92 177 3 ≤ 160 := hG_s92 177 3
          exact x_iret k40_61 rfl ⟨hG_s92, f_s92, 1, rfl, ⟨by decide, by decide⟩, ⟨(by have sc := sns_cs (s0 178) (s0 177 1) (s0 177 3); have s1 := s2_1 (s0 178) (s0 177 1) (s0 177 3); unfold SeC SeR; unfold nx at s1; omega), by omega⟩, TK_s92⟩
      · skip
        refine x_A k40_33 (fun _ => rfl) ?_
        refine x_istore_n k40_34 (ls' := [(1, vi 2), (0, .ref 177)]) (by decide) rfl ?_
        refine x_A k40_35 (fun _ => rfl) ?_
        refine x_A k40_36 (fun _ => rfl) ?_
        refine x_ic_ne k40_37 (t := 49) rfl ⟨by decide, by decide⟩ ⟨by decide, by decide⟩ (fun c98 => ?_) (fun c98 => by exfalso; omega)
        refine x_A k40_49 (fun _ => rfl) ?_
        refine x_getI k40_50 (f := 5) rfl (q := 177) (n := 7) (kd := 7) ⟨by decide, rfl⟩ (by decide) rfl ?_
        refine x_rw (e_z2.symm) ?_
        refine x_if_ne k40_53 (t := 60) rfl (by first | exact x_rbe e_z2 g_z2 rfl rfl | exact x_rb g_z2 rfl rfl | exact ⟨by omega, by omega⟩) (fun c99 => ?_) (fun c99 => ?_)
        · skip
          refine x_A k40_60 (fun _ => rfl) ?_
          exact x_iret k40_61 rfl ⟨hG0, f0, 2, rfl, ⟨by decide, by decide⟩, ⟨(by have sc := sns_cs (s0 178) (s0 177 1) (s0 177 3); have s1 := s2_1 (s0 178) (s0 177 1) (s0 177 3); unfold SeC SeR; unfold nx at s1; omega), by omega⟩, i0_TK⟩
        · skip
          refine x_A k40_56 (fun _ => rfl) ?_
          obtain ⟨z100, e_z100⟩ : ∃ z, z = s0 177 1 := ⟨_, rfl⟩
          have g_z100 : (0 : Int) ≤ s0 177 1 ∧ s0 177 1 ≤ 160 := hG0 177 1
          obtain ⟨z101, e_z101⟩ : ∃ z, z = s0 177 4 := ⟨_, rfl⟩
          have g_z101 : (0 : Int) ≤ s0 177 4 ∧ s0 177 4 ≤ 160 := hG0 177 4
          refine x_callV k40_57 (y := 51) (n := 0) (w0 := 0) (w1 := 0) (as := []) (rest := []) (by decide +kernel) (q := 177) (nq := 7) (kq := 7) ⟨by decide, rfl⟩ rfl rfl rfl rfl (xe_mono (E_X6_advance_177 s0 hG0 (by omega)) ?_)
          rintro s103 v ⟨hG_s103, t_s103, rfl, xp_z102⟩
          have f_s103 : FL [1219, 1220, 1221, 1222, 1223] s0 s103 := f0.tr t_s103 (by decide +kernel)
          have q104 : s103 177 5 = z2 := (t_s103 177 5 (show 1222 ∉ [1219, 1220, 1221] from by decide +kernel)).trans e_z2.symm
          have q105 : s103 177 6 = z3 := (t_s103 177 6 (show 1223 ∉ [1219, 1220, 1221] from by decide +kernel)).trans e_z3.symm
          have q106 : s103 177 1 = z100 := (t_s103 177 1 (show 1218 ∉ [1219, 1220, 1221] from by decide +kernel)).trans e_z100.symm
          show xe none 40 60 [(1, vi 2), (0, .ref 177)] [] s103 0 0 _
          have tq107 := xp_z102
          rw [show s0 177 4 = te (s0 178) (s0 177 1) (s0 177 3) by omega] at tq107
          have TK_s103 : TKs s103 := TK.s tq107 (show s103 178 = s0 178 from funext fun i => f_s103 178 i (show 1280 ∉ [1219, 1220, 1221, 1222, 1223] from by decide +kernel)) (by omega)
          unfold TK at tq107
          refine x_A k40_60 (fun _ => rfl) ?_
          obtain ⟨z108, e_z108⟩ : ∃ z, z = s103 177 3 := ⟨_, rfl⟩
          have g_z108 : (0 : Int) ≤ s103 177 3 ∧ s103 177 3 ≤ 160 := hG_s103 177 3
          exact x_iret k40_61 rfl ⟨hG_s103, f_s103, 2, rfl, ⟨by decide, by decide⟩, ⟨(by have sc := sns_cs (s0 178) (s0 177 1) (s0 177 3); have s1 := s2_1 (s0 178) (s0 177 1) (s0 177 3); unfold SeC SeR; unfold nx at s1; omega), by omega⟩, TK_s103⟩
set_option maxHeartbeats 8000000 in
theorem E_X4_readFirst_177 (s0 : xS) (hG0 : GI s0) (a : Int) (b_a : (-2147483648) ≤ a ∧ a ≤ 2147483647) (i0_TK : TKs s0) : xe none 38 0 (lv_args 0 [.ref 177, vi a]) [] s0 0 0 (fun s' v => GI s' ∧ FL [1219, 1220, 1221, 1222, 1223] s0 s' ∧ ∃ z, v = some (vi z) ∧ ((-1) ≤ z ∧ z ≤ 99) ∧ (FrC s0 s' a z ∧ (s' 177 5 = 0 → s0 177 5 = 0 ∧ 0 ≤ z ∧ z ≤ 99 ∧ (a = 4 → z ≤ 39) ∧ (a < 4 → z ≤ 5))) ∧ TKs s') := by
  have f0 : FL [1219, 1220, 1221, 1222, 1223] s0 s0 := FL.rf
  show xe none 38 0 [(0, .ref 177), (1, vi a)] [] s0 0 0 _
  refine x_A k38_0 (fun _ => rfl) ?_
  have c1 : a = 4 ∨ a = 5 ∨ a = 6 ∨ ¬ (4 ≤ a ∧ a ≤ 6) := by omega
  rcases c1 with c1 | c1 | c1 | c1
  · rw [c1]
    refine x_B k38_1 rfl (fun _ => rfl) (fun _ => rfl) (fun _ _ => rfl) ?_
    show xe none 38 28 [(0, .ref 177), (1, vi 4)] [] s0 0 0 _
    refine x_A k38_28 (fun _ => rfl) ?_
    refine x_A k38_29 (fun _ => rfl) ?_
    refine x_bipush k38_30 (by decide +kernel) ?_
    refine x_A k38_32 (fun _ => rfl) ?_
    refine x_callV k38_33 (y := 57) (n := 3) (w0 := 0) (w1 := 3) (as := [vi 0, vi 39, vi 2]) (rest := []) (by decide +kernel) (q := 177) (nq := 7) (kq := 7) ⟨by decide, rfl⟩ rfl rfl rfl rfl (xe_mono (E_X6_takeNumber_177 s0 hG0 0 ⟨by decide, by decide⟩ 39 ⟨by decide, by decide⟩ 2 ⟨by decide, by decide⟩ i0_TK) ?_)
    rintro s3 v ⟨hG_s3, t_s3, z2, rfl, g_z2, xp_z2, TK_s3⟩
    have f_s3 : FL [1219, 1220, 1221, 1222, 1223] s0 s3 := f0.tr t_s3 (by decide +kernel)
    obtain ⟨z4, e_z4⟩ : ∃ z, z = s3 177 3 := ⟨_, rfl⟩
    have g_z4 : (0 : Int) ≤ s3 177 3 ∧ s3 177 3 ≤ 160 := hG_s3 177 3
    obtain ⟨z5, e_z5⟩ : ∃ z, z = s3 177 5 := ⟨_, rfl⟩
    have g_z5 : (0 : Int) ≤ s3 177 5 ∧ s3 177 5 ≤ 5 := hG_s3 177 5
    obtain ⟨z6, e_z6⟩ : ∃ z, z = s3 177 6 := ⟨_, rfl⟩
    have g_z6 : (-2147483648) ≤ s3 177 6 ∧ s3 177 6 ≤ 2147483647 := hG_s3 177 6
    show xe none 38 36 [(0, .ref 177), (1, vi 4)] [vi z2] s3 0 0 _
    exact x_iret k38_36 rfl ⟨hG_s3, f_s3, z2, rfl, (by first | exact x_rbe e_z2 g_z2 rfl rfl | exact x_rb g_z2 rfl rfl | exact ⟨by omega, by omega⟩), ⟨(by unfold FrC f1c; rw [if_pos (by omega)]; exact xp_z2.1), by omega⟩, TK_s3⟩
  · rw [c1]
    refine x_B k38_1 rfl (fun _ => rfl) (fun _ => rfl) (fun _ _ => rfl) ?_
    show xe none 38 37 [(0, .ref 177), (1, vi 5)] [] s0 0 0 _
    refine x_A k38_37 (fun _ => rfl) ?_
    refine x_A k38_38 (fun _ => rfl) ?_
    refine x_bipush k38_39 (by decide +kernel) ?_
    refine x_A k38_41 (fun _ => rfl) ?_
    refine x_callV k38_42 (y := 57) (n := 3) (w0 := 0) (w1 := 3) (as := [vi 1, vi 20, vi 2]) (rest := []) (by decide +kernel) (q := 177) (nq := 7) (kq := 7) ⟨by decide, rfl⟩ rfl rfl rfl rfl (xe_mono (E_X6_takeNumber_177 s0 hG0 1 ⟨by decide, by decide⟩ 20 ⟨by decide, by decide⟩ 2 ⟨by decide, by decide⟩ i0_TK) ?_)
    rintro s8 v ⟨hG_s8, t_s8, z7, rfl, g_z7, xp_z7, TK_s8⟩
    have f_s8 : FL [1219, 1220, 1221, 1222, 1223] s0 s8 := f0.tr t_s8 (by decide +kernel)
    obtain ⟨z9, e_z9⟩ : ∃ z, z = s8 177 3 := ⟨_, rfl⟩
    have g_z9 : (0 : Int) ≤ s8 177 3 ∧ s8 177 3 ≤ 160 := hG_s8 177 3
    obtain ⟨z10, e_z10⟩ : ∃ z, z = s8 177 5 := ⟨_, rfl⟩
    have g_z10 : (0 : Int) ≤ s8 177 5 ∧ s8 177 5 ≤ 5 := hG_s8 177 5
    obtain ⟨z11, e_z11⟩ : ∃ z, z = s8 177 6 := ⟨_, rfl⟩
    have g_z11 : (-2147483648) ≤ s8 177 6 ∧ s8 177 6 ≤ 2147483647 := hG_s8 177 6
    show xe none 38 45 [(0, .ref 177), (1, vi 5)] [vi z7] s8 0 0 _
    exact x_iret k38_45 rfl ⟨hG_s8, f_s8, z7, rfl, (by first | exact x_rbe e_z7 g_z7 rfl rfl | exact x_rb g_z7 rfl rfl | exact ⟨by omega, by omega⟩), ⟨(by unfold FrC f1c; rw [if_neg (by omega), if_pos (by omega)]; exact xp_z7.1), by omega⟩, TK_s8⟩
  · rw [c1]
    refine x_B k38_1 rfl (fun _ => rfl) (fun _ => rfl) (fun _ _ => rfl) ?_
    show xe none 38 46 [(0, .ref 177), (1, vi 6)] [] s0 0 0 _
    refine x_A k38_46 (fun _ => rfl) ?_
    refine x_A k38_47 (fun _ => rfl) ?_
    refine x_bipush k38_48 (by decide +kernel) ?_
    refine x_A k38_50 (fun _ => rfl) ?_
    refine x_callV k38_51 (y := 57) (n := 3) (w0 := 0) (w1 := 3) (as := [vi 0, vi 99, vi 2]) (rest := []) (by decide +kernel) (q := 177) (nq := 7) (kq := 7) ⟨by decide, rfl⟩ rfl rfl rfl rfl (xe_mono (E_X6_takeNumber_177 s0 hG0 0 ⟨by decide, by decide⟩ 99 ⟨by decide, by decide⟩ 2 ⟨by decide, by decide⟩ i0_TK) ?_)
    rintro s13 v ⟨hG_s13, t_s13, z12, rfl, g_z12, xp_z12, TK_s13⟩
    have f_s13 : FL [1219, 1220, 1221, 1222, 1223] s0 s13 := f0.tr t_s13 (by decide +kernel)
    obtain ⟨z14, e_z14⟩ : ∃ z, z = s13 177 3 := ⟨_, rfl⟩
    have g_z14 : (0 : Int) ≤ s13 177 3 ∧ s13 177 3 ≤ 160 := hG_s13 177 3
    obtain ⟨z15, e_z15⟩ : ∃ z, z = s13 177 5 := ⟨_, rfl⟩
    have g_z15 : (0 : Int) ≤ s13 177 5 ∧ s13 177 5 ≤ 5 := hG_s13 177 5
    obtain ⟨z16, e_z16⟩ : ∃ z, z = s13 177 6 := ⟨_, rfl⟩
    have g_z16 : (-2147483648) ≤ s13 177 6 ∧ s13 177 6 ≤ 2147483647 := hG_s13 177 6
    show xe none 38 54 [(0, .ref 177), (1, vi 6)] [vi z12] s13 0 0 _
    exact x_iret k38_54 rfl ⟨hG_s13, f_s13, z12, rfl, (by first | exact x_rbe e_z12 g_z12 rfl rfl | exact x_rb g_z12 rfl rfl | exact ⟨by omega, by omega⟩), ⟨(by unfold FrC f1c; rw [if_neg (by omega), if_neg (by omega), if_pos (by omega)]; exact xp_z12.1), by omega⟩, TK_s13⟩
  · refine x_tabD k38_1 ⟨by omega, by omega⟩ c1 (t0 := 55) rfl ?_
    refine x_A k38_55 (fun _ => rfl) ?_
    refine x_A k38_56 (fun _ => rfl) ?_
    refine x_A k38_57 (fun _ => rfl) ?_
    refine x_A k38_58 (fun _ => rfl) ?_
    refine x_callV k38_59 (y := 57) (n := 3) (w0 := 0) (w1 := 3) (as := [vi 0, vi 5, vi 2]) (rest := []) (by decide +kernel) (q := 177) (nq := 7) (kq := 7) ⟨by decide, rfl⟩ rfl rfl rfl rfl (xe_mono (E_X6_takeNumber_177 s0 hG0 0 ⟨by decide, by decide⟩ 5 ⟨by decide, by decide⟩ 2 ⟨by decide, by decide⟩ i0_TK) ?_)
    rintro s18 v ⟨hG_s18, t_s18, z17, rfl, g_z17, xp_z17, TK_s18⟩
    have f_s18 : FL [1219, 1220, 1221, 1222, 1223] s0 s18 := f0.tr t_s18 (by decide +kernel)
    obtain ⟨z19, e_z19⟩ : ∃ z, z = s18 177 3 := ⟨_, rfl⟩
    have g_z19 : (0 : Int) ≤ s18 177 3 ∧ s18 177 3 ≤ 160 := hG_s18 177 3
    obtain ⟨z20, e_z20⟩ : ∃ z, z = s18 177 5 := ⟨_, rfl⟩
    have g_z20 : (0 : Int) ≤ s18 177 5 ∧ s18 177 5 ≤ 5 := hG_s18 177 5
    obtain ⟨z21, e_z21⟩ : ∃ z, z = s18 177 6 := ⟨_, rfl⟩
    have g_z21 : (-2147483648) ≤ s18 177 6 ∧ s18 177 6 ≤ 2147483647 := hG_s18 177 6
    show xe none 38 62 [(0, .ref 177), (1, vi a)] [vi z17] s18 0 0 _
    exact x_iret k38_62 rfl ⟨hG_s18, f_s18, z17, rfl, (by first | exact x_rbe e_z17 g_z17 rfl rfl | exact x_rb g_z17 rfl rfl | exact ⟨by omega, by omega⟩), ⟨(by unfold FrC f1c; rw [if_neg (by omega), if_neg (by omega), if_neg (by omega)]; exact xp_z17.1), by omega⟩, TK_s18⟩
