set_option maxHeartbeats 8000000 in
theorem E_X0_readUpToJoin_218_177 (s0 : xS) (hG0 : GI s0) (pa : s0 177 1 ≤ 100 ∧ 0 ≤ s0 218 5 ∧ s0 218 5 ≤ 6 ∧ (s0 177 5 = 0 → s0 218 5 ≤ 5) ∧ 0 ≤ s0 177 3 ∧ s0 177 3 ≤ s0 177 1) (pe : s0 177 5 = 0 → AI (s0 178) (s0 177 1) 0 (s0 218 5) (s0 177 3)) (pf : s0 177 5 ≠ 0 → AF (s0 178) (s0 177 1) (s0 177 5) (s0 177 6)) (i0_TK : TKs s0) : xe none 8 0 (lv_args 0 [.ref 218, .ref 177]) [] s0 0 0 (fun s' v => GI s' ∧ FL [2501, 2502, 2560, 2688, 2816, 1219, 1220, 1221, 1222, 1223] s0 s' ∧ ∃ z, v = some (vi z) ∧ (0 ≤ z ∧ z ≤ 1) ∧ ((z = 1 ∧ s' 177 5 = 0 ∧ AI (s0 178) (s0 177 1) 1 (s' 218 5) (s' 177 3) ∧ (0 ≤ s' 218 5 ∧ s' 218 5 ≤ 5) ∧ s0 177 3 ≤ s' 177 3 ∧ s0 177 5 = 0) ∨ (z = 0 ∧ ((s' 177 5 = 0 ∧ AD (s0 178) (s0 177 1)) ∨ (s' 177 5 ≠ 0 ∧ AF (s0 178) (s0 177 1) (s' 177 5) (s' 177 6))))) ∧ TKs s') := by
  have f0 : FL [2501, 2502, 2560, 2688, 2816, 1219, 1220, 1221, 1222, 1223] s0 s0 := FL.rf
  show xe none 8 0 [(0, .ref 218), (1, .ref 177)] [] s0 0 0 _
  refine x_A k8_0 (fun _ => rfl) ?_
  refine x_istore_n k8_1 (ls' := [(2, vi 0), (0, .ref 218), (1, .ref 177)]) (by decide) rfl ?_
  obtain ⟨z1878, e_z1878⟩ : ∃ z, z = s0 177 5 := ⟨_, rfl⟩
  have g_z1878 : (0 : Int) ≤ s0 177 5 ∧ s0 177 5 ≤ 5 := hG0 177 5
  obtain ⟨z1879, e_z1879⟩ : ∃ z, z = s0 218 5 := ⟨_, rfl⟩
  have g_z1879 : (-2147483648) ≤ s0 218 5 ∧ s0 218 5 ≤ 2147483647 := hG0 218 5
  obtain ⟨z1880, e_z1880⟩ : ∃ z, z = s0 177 1 := ⟨_, rfl⟩
  have g_z1880 : (0 : Int) ≤ s0 177 1 ∧ s0 177 1 ≤ 160 := hG0 177 1
  obtain ⟨z1881, e_z1881⟩ : ∃ z, z = s0 177 3 := ⟨_, rfl⟩
  have g_z1881 : (0 : Int) ≤ s0 177 3 ∧ s0 177 3 ≤ 160 := hG0 177 3
  refine x_ls (l := [(0, .ref 218), (1, .ref 177), (2, vi 0)]) (show ([0, 1, 2] : List Nat).Nodup from by decide +kernel) ⟨rfl, rfl, rfl, trivial⟩ ?_
  exact L_E_X0_readUpToJoin_218_177_2 s0 pa pe pf  (((6 - 0) + 1 : Int)).toNat s0 0 z1878 z1879 z1880 z1881 hG0 f0 ⟨by decide, by decide⟩ (by first | exact x_rbe e_z1878 g_z1878 rfl rfl | exact x_rb g_z1878 rfl rfl | exact ⟨by omega, by omega⟩) (by first | exact x_rbe e_z1879 g_z1879 rfl rfl | exact x_rb g_z1879 rfl rfl | exact ⟨by omega, by omega⟩) (by first | exact x_rbe e_z1880 g_z1880 rfl rfl | exact x_rb g_z1880 rfl rfl | exact ⟨by omega, by omega⟩) (by first | exact x_rbe e_z1881 g_z1881 rfl rfl | exact x_rb g_z1881 rfl rfl | exact ⟨by omega, by omega⟩) (by omega) (show s0 178 = s0 178 from funext fun i => f0 178 i (show 1280 ∉ [2501, 2502, 2560, 2688, 2816, 1219, 1220, 1221, 1222, 1223] from by decide +kernel)) (fun hz => by rw [show z1879 = s0 218 5 by omega, show z1881 = s0 177 3 by omega]; exact pe (by omega)) (fun hz => by rw [show z1878 = s0 177 5 by omega]; exact pf (by omega)) (by omega) (by omega) (by omega) (e_z1878.symm).symm (e_z1879.symm).symm (e_z1880.symm).symm (e_z1881.symm).symm i0_TK  (by omega)
set_option maxHeartbeats 8000000 in
theorem L_E_X0_read_218_177_38 (s0 : xS) (pa : s0 177 1 ≤ 100)  : ∀ (n : Nat) (s : xS) (x2 : Int) (x3 : Int) (x1000 : Int) (x1001 : Int) (x1002 : Int) (x1003 : Int) (x1004 : Int) (hG : GI s) (f : FL [2501, 2502, 2560, 2688, 2816, 1219, 1220, 1221, 1222, 1223, 2503] s0 s) (b_x2 : 0 ≤ x2 ∧ x2 ≤ 1) (b_x3 : 0 ≤ x3 ∧ x3 ≤ 100) (b_x1000 : 0 ≤ x1000 ∧ x1000 ≤ 7) (b_x1001 : 0 ≤ x1001 ∧ x1001 ≤ 5) (b_x1002 : (-2147483648) ≤ x1002 ∧ x1002 ≤ 2147483647) (b_x1003 : 0 ≤ x1003 ∧ x1003 ≤ 160) (b_x1004 : 0 ≤ x1004 ∧ x1004 ≤ 160) (r_2_3 : x2 ≤ x3 + 1) (w_0 : x1000 = s0 218 6 ∧ x1000 ≤ 7) (w_1 : x1003 = s0 177 1 ∧ x1003 ≤ 100) (w_2 : TKs s) (w_3 : s 178 = s0 178) (w_4 : x2 = 1 → x1001 = 0 ∧ AI (s0 178) (s0 177 1) 1 x1002 x1004 ∧ 0 ≤ x1002 ∧ x1002 ≤ 5 ∧ 2 * x3 ≤ x1004) (w_5 : x2 = 0 → (x1001 = 0 ∧ AD (s0 178) (s0 177 1)) ∨ (x1001 ≠ 0 ∧ AF (s0 178) (s0 177 1) x1001 (s 177 6))) (w_6 : 0 ≤ x1004 ∧ x1004 ≤ x1003 ∧ 0 ≤ x3) (e_x1000 : x1000 = s 218 6) (e_x1001 : x1001 = s 177 5) (e_x1002 : x1002 = s 218 5) (e_x1003 : x1003 = s 177 1) (e_x1004 : x1004 = s 177 3)  (hm : (100 - x3) < (n : Int)), xe none 2 38 [(0, .ref 218), (1, .ref 177), (2, vi x2), (3, vi x3)] [] s 0 0 (fun s' v => GI s' ∧ FL [2501, 2502, 2560, 2688, 2816, 1219, 1220, 1221, 1222, 1223, 2503] s0 s' ∧ v = none ∧ (0 ≤ s0 218 6 ∧ ((s' 177 5 = 0 ∧ s' 218 6 = s0 218 6 + 1 ∧ AD (s0 178) (s0 177 1)) ∨ (s' 177 5 ≠ 0 ∧ s' 218 6 = s0 218 6 ∧ AF (s0 178) (s0 177 1) (s' 177 5) (s' 177 6))))) := by
  intro n
  induction n with
  | zero => intro s x2 x3 x1000 x1001 x1002 x1003 x1004 hG f b_x2 b_x3 b_x1000 b_x1001 b_x1002 b_x1003 b_x1004 r_2_3 w_0 w_1 w_2 w_3 w_4 w_5 w_6 e_x1000 e_x1001 e_x1002 e_x1003 e_x1004  hm; exfalso; omega
  | succ n ih =>
    intro s x2 x3 x1000 x1001 x1002 x1003 x1004 hG f b_x2 b_x3 b_x1000 b_x1001 b_x1002 b_x1003 b_x1004 r_2_3 w_0 w_1 w_2 w_3 w_4 w_5 w_6 e_x1000 e_x1001 e_x1002 e_x1003 e_x1004  hm
    refine x_A k2_38 (fun _ => rfl) ?_
    refine x_if_eq k2_39 (t := 70) rfl (by first | exact x_rb b_x2 rfl rfl | exact ⟨by omega, by omega⟩) (fun c1457 => ?_) (fun c1457 => ?_)
    · skip
      obtain ⟨z1458, e_z1458⟩ : ∃ z, z = s 177 6 := ⟨_, rfl⟩
      have g_z1458 : (-2147483648) ≤ s 177 6 ∧ s 177 6 ≤ 2147483647 := hG 177 6
      refine x_A k2_70 (fun _ => rfl) ?_
      refine x_getI k2_71 (f := 5) rfl (q := 177) (n := 7) (kd := 7) ⟨by decide, rfl⟩ (by decide) rfl ?_
      refine x_rw (e_x1001.symm) ?_
      refine x_if_eq k2_74 (t := 78) rfl (by first | exact x_rb b_x1001 rfl rfl | exact ⟨by omega, by omega⟩) (fun c1459 => ?_) (fun c1459 => ?_)
      · skip
        refine x_A k2_78 (fun _ => rfl) ?_
        refine x_bipush k2_79 (by decide +kernel) ?_
        refine x_callV k2_81 (y := 12) (n := 1) (w0 := 0) (w1 := 1) (as := [vi 7]) (rest := []) (by decide +kernel) (q := 218) (nq := 7) (kq := 11) ⟨by decide, rfl⟩ rfl rfl rfl rfl (xe_mono (C_X0_releaseDownTo_218 s hG 7 ⟨by decide, by decide⟩) ?_)
        rintro s1461 v ⟨hG_s1461, t_s1461, rfl⟩
        have f_s1461 : FL [2501, 2502, 2560, 2688, 2816, 1219, 1220, 1221, 1222, 1223, 2503] s0 s1461 := f.tr t_s1461 (by decide +kernel)
        have q1462 : s1461 218 6 = x1000 := (t_s1461 218 6 (show 2503 ∉ [2501, 2560, 2688] from by decide +kernel)).trans e_x1000.symm
        have q1463 : s1461 177 5 = x1001 := (t_s1461 177 5 (show 1222 ∉ [2501, 2560, 2688] from by decide +kernel)).trans e_x1001.symm
        have q1464 : s1461 218 5 = x1002 := (t_s1461 218 5 (show 2502 ∉ [2501, 2560, 2688] from by decide +kernel)).trans e_x1002.symm
        have q1465 : s1461 177 1 = x1003 := (t_s1461 177 1 (show 1218 ∉ [2501, 2560, 2688] from by decide +kernel)).trans e_x1003.symm
        have q1466 : s1461 177 3 = x1004 := (t_s1461 177 3 (show 1220 ∉ [2501, 2560, 2688] from by decide +kernel)).trans e_x1004.symm
        have q1467 : s1461 177 6 = z1458 := (t_s1461 177 6 (show 1223 ∉ [2501, 2560, 2688] from by decide +kernel)).trans e_z1458.symm
        have TK_s1461 : TKs s1461 := TKs.fl w_2 t_s1461 (by decide +kernel)
        show xe none 2 84 [(0, .ref 218), (1, .ref 177), (2, vi x2), (3, vi x3)] [] s1461 0 0 _
        refine x_A k2_84 (fun _ => rfl) ?_
        refine x_A k2_85 (fun _ => rfl) ?_
        refine x_getI k2_86 (f := 6) rfl (q := 218) (n := 7) (kd := 11) ⟨by decide, rfl⟩ (by decide) rfl ?_
        refine x_rw (q1462) ?_
        refine x_A k2_89 (fun _ => rfl) ?_
        refine x_iadd k2_90 ?_
        refine x_top (fun z1468 e_z1468 => ?_)
        refine x_putI k2_91 (f := 6) rfl (q := 218) (n := 7) (kd := 11) ⟨by decide, rfl⟩ rfl rfl rfl ?_
        refine x_nh (fun s1469 e_s1469 => ?_)
        have hG_s1469 : GI s1469 := by rw [e_s1469]; exact hG_s1461.up (show 0 ≤ z1468 ∧ z1468 ≤ 8 from (by first | exact x_rbe e_z1468 g_z1468 rfl rfl | exact x_rb g_z1468 rfl rfl | exact ⟨by omega, by omega⟩))
        have f_s1469 : FL [2501, 2502, 2560, 2688, 2816, 1219, 1220, 1221, 1222, 1223, 2503] s0 s1469 := by rw [e_s1469]; exact f_s1461.up (show 2503 ∈ [2501, 2502, 2560, 2688, 2816, 1219, 1220, 1221, 1222, 1223, 2503] from by decide +kernel)
        have q1470 : s1469 177 5 = x1001 := by rw [e_s1469, x_up_q (by decide)]; exact q1463
        have q1471 : s1469 218 5 = x1002 := by rw [e_s1469, x_up_i (by decide)]; exact q1464
        have q1472 : s1469 177 1 = x1003 := by rw [e_s1469, x_up_q (by decide)]; exact q1465
        have q1473 : s1469 177 3 = x1004 := by rw [e_s1469, x_up_q (by decide)]; exact q1466
        have q1474 : s1469 177 6 = z1458 := by rw [e_s1469, x_up_q (by decide)]; exact q1467
        have q1475 : s1469 218 6 = z1468 := by rw [e_s1469]; exact x_up_same
        have TK_s1469 : TKs s1469 := by rw [e_s1469]; exact TKs.up TK_s1461 (show 2503 ∉ LTK from by decide)
        exact x_vret k2_94 rfl ⟨hG_s1469, f_s1469, rfl, ⟨by omega, (w_5 (by omega)).elim (fun q => Or.inl ⟨by omega, by omega, q.2⟩) (fun q => by exfalso; omega)⟩⟩
      · skip
        exact x_vret k2_77 rfl ⟨hG, f, rfl, ⟨by omega, (w_5 (by omega)).elim (fun q => by exfalso; omega) (fun q => Or.inr ⟨by omega, by omega, by rw [show s 177 5 = x1001 by omega]; exact q.2⟩)⟩⟩
    · skip
      refine x_A k2_42 (fun _ => rfl) ?_
      refine x_bipush k2_43 (by decide +kernel) ?_
      refine x_ic_ge k2_45 (t := 70) rfl (by first | exact x_rb b_x3 rfl rfl | exact ⟨by omega, by omega⟩) ⟨by decide, by decide⟩ (fun c1476 => ?_) (fun c1476 => ?_)
      · skip
        obtain ⟨z1477, e_z1477⟩ : ∃ z, z = s 177 6 := ⟨_, rfl⟩
        have g_z1477 : (-2147483648) ≤ s 177 6 ∧ s 177 6 ≤ 2147483647 := hG 177 6
        refine x_A k2_70 (fun _ => rfl) ?_
        refine x_getI k2_71 (f := 5) rfl (q := 177) (n := 7) (kd := 7) ⟨by decide, rfl⟩ (by decide) rfl ?_
        refine x_rw (e_x1001.symm) ?_
        refine x_if_eq k2_74 (t := 78) rfl (by first | exact x_rb b_x1001 rfl rfl | exact ⟨by omega, by omega⟩) (fun c1478 => ?_) (fun c1478 => ?_)
        · skip
          refine x_A k2_78 (fun _ => rfl) ?_
          refine x_bipush k2_79 (by decide +kernel) ?_
          refine x_callV k2_81 (y := 12) (n := 1) (w0 := 0) (w1 := 1) (as := [vi 7]) (rest := []) (by decide +kernel) (q := 218) (nq := 7) (kq := 11) ⟨by decide, rfl⟩ rfl rfl rfl rfl (xe_mono (C_X0_releaseDownTo_218 s hG 7 ⟨by decide, by decide⟩) ?_)
          rintro s1480 v ⟨hG_s1480, t_s1480, rfl⟩
          have f_s1480 : FL [2501, 2502, 2560, 2688, 2816, 1219, 1220, 1221, 1222, 1223, 2503] s0 s1480 := f.tr t_s1480 (by decide +kernel)
          have q1481 : s1480 218 6 = x1000 := (t_s1480 218 6 (show 2503 ∉ [2501, 2560, 2688] from by decide +kernel)).trans e_x1000.symm
          have q1482 : s1480 177 5 = x1001 := (t_s1480 177 5 (show 1222 ∉ [2501, 2560, 2688] from by decide +kernel)).trans e_x1001.symm
          have q1483 : s1480 218 5 = x1002 := (t_s1480 218 5 (show 2502 ∉ [2501, 2560, 2688] from by decide +kernel)).trans e_x1002.symm
          have q1484 : s1480 177 1 = x1003 := (t_s1480 177 1 (show 1218 ∉ [2501, 2560, 2688] from by decide +kernel)).trans e_x1003.symm
          have q1485 : s1480 177 3 = x1004 := (t_s1480 177 3 (show 1220 ∉ [2501, 2560, 2688] from by decide +kernel)).trans e_x1004.symm
          have q1486 : s1480 177 6 = z1477 := (t_s1480 177 6 (show 1223 ∉ [2501, 2560, 2688] from by decide +kernel)).trans e_z1477.symm
          have TK_s1480 : TKs s1480 := TKs.fl w_2 t_s1480 (by decide +kernel)
          show xe none 2 84 [(0, .ref 218), (1, .ref 177), (2, vi x2), (3, vi x3)] [] s1480 0 0 _
          refine x_A k2_84 (fun _ => rfl) ?_
          refine x_A k2_85 (fun _ => rfl) ?_
          refine x_getI k2_86 (f := 6) rfl (q := 218) (n := 7) (kd := 11) ⟨by decide, rfl⟩ (by decide) rfl ?_
          refine x_rw (q1481) ?_
          refine x_A k2_89 (fun _ => rfl) ?_
          refine x_iadd k2_90 ?_
          refine x_top (fun z1487 e_z1487 => ?_)
          refine x_putI k2_91 (f := 6) rfl (q := 218) (n := 7) (kd := 11) ⟨by decide, rfl⟩ rfl rfl rfl ?_
          refine x_nh (fun s1488 e_s1488 => ?_)
          have hG_s1488 : GI s1488 := by rw [e_s1488]; exact hG_s1480.up (show 0 ≤ z1487 ∧ z1487 ≤ 8 from (by first | exact x_rbe e_z1487 g_z1487 rfl rfl | exact x_rb g_z1487 rfl rfl | exact ⟨by omega, by omega⟩))
          have f_s1488 : FL [2501, 2502, 2560, 2688, 2816, 1219, 1220, 1221, 1222, 1223, 2503] s0 s1488 := by rw [e_s1488]; exact f_s1480.up (show 2503 ∈ [2501, 2502, 2560, 2688, 2816, 1219, 1220, 1221, 1222, 1223, 2503] from by decide +kernel)
          have q1489 : s1488 177 5 = x1001 := by rw [e_s1488, x_up_q (by decide)]; exact q1482
          have q1490 : s1488 218 5 = x1002 := by rw [e_s1488, x_up_i (by decide)]; exact q1483
          have q1491 : s1488 177 1 = x1003 := by rw [e_s1488, x_up_q (by decide)]; exact q1484
          have q1492 : s1488 177 3 = x1004 := by rw [e_s1488, x_up_q (by decide)]; exact q1485
          have q1493 : s1488 177 6 = z1477 := by rw [e_s1488, x_up_q (by decide)]; exact q1486
          have q1494 : s1488 218 6 = z1487 := by rw [e_s1488]; exact x_up_same
          have TK_s1488 : TKs s1488 := by rw [e_s1488]; exact TKs.up TK_s1480 (show 2503 ∉ LTK from by decide)
          exact x_vret k2_94 rfl ⟨hG_s1488, f_s1488, rfl, ⟨by omega, (w_5 (by omega)).elim (fun q => Or.inl ⟨by omega, by omega, q.2⟩) (fun q => by exfalso; omega)⟩⟩
        · skip
          exact x_vret k2_77 rfl ⟨hG, f, rfl, ⟨by omega, (w_5 (by omega)).elim (fun q => by exfalso; omega) (fun q => Or.inr ⟨by omega, by omega, by rw [show s 177 5 = x1001 by omega]; exact q.2⟩)⟩⟩
      · skip
        have A1_ := w_4 (by omega)
        have pe1 : AI (s 178) (s 177 1) 1 (s 218 5) (s 177 3) := by rw [w_3, show s 177 1 = s0 177 1 by omega, show s 218 5 = x1002 by omega, show s 177 3 = x1004 by omega]; exact A1_.2.1
        refine x_A k2_48 (fun _ => rfl) ?_
        refine x_A k2_49 (fun _ => rfl) ?_
        refine x_callV k2_50 (y := 3) (n := 1) (w0 := 0) (w1 := 1) (as := [.ref 177]) (rest := []) (by decide +kernel) (q := 218) (nq := 7) (kq := 11) ⟨by decide, rfl⟩ rfl rfl rfl rfl (xe_mono (E_X0_readUpToOne_218_177 s hG (by omega) pe1 w_2) ?_)
        rintro s1496 v ⟨hG_s1496, t_s1496, rfl, xp_z1495, TK_s1496⟩
        have f_s1496 : FL [2501, 2502, 2560, 2688, 2816, 1219, 1220, 1221, 1222, 1223, 2503] s0 s1496 := f.tr t_s1496 (by decide +kernel)
        have q1497 : s1496 218 6 = x1000 := (t_s1496 218 6 (show 2503 ∉ [2501, 2502, 2560, 2688, 2816, 1219, 1220, 1221, 1222, 1223] from by decide +kernel)).trans e_x1000.symm
        have q1498 : s1496 177 1 = x1003 := (t_s1496 177 1 (show 1218 ∉ [2501, 2502, 2560, 2688, 2816, 1219, 1220, 1221, 1222, 1223] from by decide +kernel)).trans e_x1003.symm
        obtain ⟨z1499, e_z1499⟩ : ∃ z, z = s1496 177 3 := ⟨_, rfl⟩
        have g_z1499 : (0 : Int) ≤ s1496 177 3 ∧ s1496 177 3 ≤ 160 := hG_s1496 177 3
        obtain ⟨z1500, e_z1500⟩ : ∃ z, z = s1496 177 5 := ⟨_, rfl⟩
        have g_z1500 : (0 : Int) ≤ s1496 177 5 ∧ s1496 177 5 ≤ 5 := hG_s1496 177 5
        obtain ⟨z1501, e_z1501⟩ : ∃ z, z = s1496 177 6 := ⟨_, rfl⟩
        have g_z1501 : (-2147483648) ≤ s1496 177 6 ∧ s1496 177 6 ≤ 2147483647 := hG_s1496 177 6
        obtain ⟨z1502, e_z1502⟩ : ∃ z, z = s1496 218 5 := ⟨_, rfl⟩
        have g_z1502 : (-2147483648) ≤ s1496 218 5 ∧ s1496 218 5 ≤ 2147483647 := hG_s1496 218 5
        show xe none 2 53 [(0, .ref 218), (1, .ref 177), (2, vi x2), (3, vi x3)] [] s1496 0 0 _
        have tb_s1496 : 0 ≤ s1496 177 3 ∧ s1496 177 3 ≤ s1496 177 1 := TK_s1496.1
        have u1 := xp_z1495
        rw [w_3, show s 177 1 = s0 177 1 by omega] at u1
        have pe2 : s1496 177 5 = 0 → AI (s1496 178) (s1496 177 1) 1 (s1496 218 5) (s1496 177 3) ∧ wv (s1496 178) (s1496 177 1) (s1496 177 3) ≠ 10631 ∧ ch (s1496 178) (s1496 177 1) (s1496 177 3) ≠ 40 := fun hz => by rw [show s1496 178 = s0 178 from funext fun i => f_s1496 178 i (show 1280 ∉ [2501, 2502, 2560, 2688, 2816, 1219, 1220, 1221, 1222, 1223, 2503] from by decide +kernel), show s1496 177 1 = s0 177 1 from f_s1496 177 1 (show 1218 ∉ [2501, 2502, 2560, 2688, 2816, 1219, 1220, 1221, 1222, 1223, 2503] from by decide +kernel)]; exact u1.elim (fun u => ⟨u.2.1, u.2.2.1, u.2.2.2.1⟩) (fun u => absurd hz u.1)
        refine x_A k2_53 (fun _ => rfl) ?_
        refine x_A k2_54 (fun _ => rfl) ?_
        refine x_callV k2_55 (y := 5) (n := 1) (w0 := 0) (w1 := 1) (as := [.ref 177]) (rest := []) (by decide +kernel) (q := 218) (nq := 7) (kq := 11) ⟨by decide, rfl⟩ rfl rfl rfl rfl (xe_mono (E_X0_readOne_218_177 s1496 hG_s1496 pe2 TK_s1496) ?_)
        rintro s1504 v ⟨hG_s1504, t_s1504, rfl, xp_z1503, TK_s1504⟩
        have f_s1504 : FL [2501, 2502, 2560, 2688, 2816, 1219, 1220, 1221, 1222, 1223, 2503] s0 s1504 := f_s1496.tr t_s1504 (by decide +kernel)
        have q1505 : s1504 218 6 = x1000 := (t_s1504 218 6 (show 2503 ∉ [2560, 2688, 1219, 1220, 1221, 1222, 1223] from by decide +kernel)).trans q1497
        have q1506 : s1504 177 1 = x1003 := (t_s1504 177 1 (show 1218 ∉ [2560, 2688, 1219, 1220, 1221, 1222, 1223] from by decide +kernel)).trans q1498
        have q1507 : s1504 218 5 = z1502 := (t_s1504 218 5 (show 2502 ∉ [2560, 2688, 1219, 1220, 1221, 1222, 1223] from by decide +kernel)).trans e_z1502.symm
        obtain ⟨z1508, e_z1508⟩ : ∃ z, z = s1504 177 3 := ⟨_, rfl⟩
        have g_z1508 : (0 : Int) ≤ s1504 177 3 ∧ s1504 177 3 ≤ 160 := hG_s1504 177 3
        obtain ⟨z1509, e_z1509⟩ : ∃ z, z = s1504 177 5 := ⟨_, rfl⟩
        have g_z1509 : (0 : Int) ≤ s1504 177 5 ∧ s1504 177 5 ≤ 5 := hG_s1504 177 5
        obtain ⟨z1510, e_z1510⟩ : ∃ z, z = s1504 177 6 := ⟨_, rfl⟩
        have g_z1510 : (-2147483648) ≤ s1504 177 6 ∧ s1504 177 6 ≤ 2147483647 := hG_s1504 177 6
        show xe none 2 58 [(0, .ref 218), (1, .ref 177), (2, vi x2), (3, vi x3)] [] s1504 0 0 _
        have tb_s1504 : 0 ≤ s1504 177 3 ∧ s1504 177 3 ≤ s1504 177 1 := TK_s1504.1
        have u2 := xp_z1503
        rw [show s1496 178 = s0 178 from funext fun i => f_s1496 178 i (show 1280 ∉ [2501, 2502, 2560, 2688, 2816, 1219, 1220, 1221, 1222, 1223, 2503] from by decide +kernel), show s1496 177 1 = s0 177 1 from f_s1496 177 1 (show 1218 ∉ [2501, 2502, 2560, 2688, 2816, 1219, 1220, 1221, 1222, 1223, 2503] from by decide +kernel)] at u2
        have pe3 : s1504 177 5 = 0 → AI (s1504 178) (s1504 177 1) 0 (s1504 218 5) (s1504 177 3) := fun hz => by rw [show s1504 178 = s0 178 from funext fun i => f_s1504 178 i (show 1280 ∉ [2501, 2502, 2560, 2688, 2816, 1219, 1220, 1221, 1222, 1223, 2503] from by decide +kernel), show s1504 177 1 = s0 177 1 from f_s1504 177 1 (show 1218 ∉ [2501, 2502, 2560, 2688, 2816, 1219, 1220, 1221, 1222, 1223, 2503] from by decide +kernel), show s1504 218 5 = s1496 218 5 by omega]; exact u2.elim (fun u => by exfalso; omega) (fun u => u.2.elim (fun q => q.2.1) (fun q => absurd hz q.1))
        have pf3 : s1504 177 5 ≠ 0 → AF (s1504 178) (s1504 177 1) (s1504 177 5) (s1504 177 6) := fun hz => by rw [show s1504 178 = s0 178 from funext fun i => f_s1504 178 i (show 1280 ∉ [2501, 2502, 2560, 2688, 2816, 1219, 1220, 1221, 1222, 1223, 2503] from by decide +kernel), show s1504 177 1 = s0 177 1 from f_s1504 177 1 (show 1218 ∉ [2501, 2502, 2560, 2688, 2816, 1219, 1220, 1221, 1222, 1223, 2503] from by decide +kernel)]; exact u2.elim (fun u => u1.elim (fun q => absurd q.1 u.1) (fun q => by rw [u.2.1, u.2.2]; exact q.2.1)) (fun u => u.2.elim (fun q => absurd q.1 hz) (fun q => q.2))
        refine x_A k2_58 (fun _ => rfl) ?_
        refine x_A k2_59 (fun _ => rfl) ?_
        refine x_callV k2_60 (y := 8) (n := 1) (w0 := 0) (w1 := 1) (as := [.ref 177]) (rest := []) (by decide +kernel) (q := 218) (nq := 7) (kq := 11) ⟨by decide, rfl⟩ rfl rfl rfl rfl (xe_mono (E_X0_readUpToJoin_218_177 s1504 hG_s1504 (by omega) pe3 pf3 TK_s1504) ?_)
        rintro s1512 v ⟨hG_s1512, t_s1512, z1511, rfl, g_z1511, xp_z1511, TK_s1512⟩
        have f_s1512 : FL [2501, 2502, 2560, 2688, 2816, 1219, 1220, 1221, 1222, 1223, 2503] s0 s1512 := f_s1504.tr t_s1512 (by decide +kernel)
        have q1513 : s1512 218 6 = x1000 := (t_s1512 218 6 (show 2503 ∉ [2501, 2502, 2560, 2688, 2816, 1219, 1220, 1221, 1222, 1223] from by decide +kernel)).trans q1505
        have q1514 : s1512 177 1 = x1003 := (t_s1512 177 1 (show 1218 ∉ [2501, 2502, 2560, 2688, 2816, 1219, 1220, 1221, 1222, 1223] from by decide +kernel)).trans q1506
        obtain ⟨z1515, e_z1515⟩ : ∃ z, z = s1512 177 3 := ⟨_, rfl⟩
        have g_z1515 : (0 : Int) ≤ s1512 177 3 ∧ s1512 177 3 ≤ 160 := hG_s1512 177 3
        obtain ⟨z1516, e_z1516⟩ : ∃ z, z = s1512 177 5 := ⟨_, rfl⟩
        have g_z1516 : (0 : Int) ≤ s1512 177 5 ∧ s1512 177 5 ≤ 5 := hG_s1512 177 5
        obtain ⟨z1517, e_z1517⟩ : ∃ z, z = s1512 177 6 := ⟨_, rfl⟩
        have g_z1517 : (-2147483648) ≤ s1512 177 6 ∧ s1512 177 6 ≤ 2147483647 := hG_s1512 177 6
        obtain ⟨z1518, e_z1518⟩ : ∃ z, z = s1512 218 5 := ⟨_, rfl⟩
        have g_z1518 : (-2147483648) ≤ s1512 218 5 ∧ s1512 218 5 ≤ 2147483647 := hG_s1512 218 5
        show xe none 2 63 [(0, .ref 218), (1, .ref 177), (2, vi x2), (3, vi x3)] [vi z1511] s1512 0 0 _
        have tb_s1512 : 0 ≤ s1512 177 3 ∧ s1512 177 3 ≤ s1512 177 1 := TK_s1512.1
        have u3 := xp_z1511
        rw [show s1504 178 = s0 178 from funext fun i => f_s1504 178 i (show 1280 ∉ [2501, 2502, 2560, 2688, 2816, 1219, 1220, 1221, 1222, 1223, 2503] from by decide +kernel), show s1504 177 1 = s0 177 1 from f_s1504 177 1 (show 1218 ∉ [2501, 2502, 2560, 2688, 2816, 1219, 1220, 1221, 1222, 1223, 2503] from by decide +kernel)] at u3
        refine x_istore_n k2_63 (ls' := [(2, vi z1511), (0, .ref 218), (1, .ref 177), (3, vi x3)]) (by decide) rfl ?_
        refine x_iinc k2_64 (ls' := [(3, vi (x3 + 1)), (2, vi z1511), (0, .ref 218), (1, .ref 177)]) rfl (by decide) rfl ?_
        refine x_goto k2_67 (t := 38) rfl ?_
        refine x_ls (l := [(0, .ref 218), (1, .ref 177), (2, vi z1511), (3, vi (x3 + 1))]) (show ([0, 1, 2, 3] : List Nat).Nodup from by decide +kernel) ⟨rfl, rfl, rfl, rfl, trivial⟩ ?_
        exact ih s1512 z1511 (x3 + 1) x1000 z1516 z1518 x1003 z1515 hG_s1512 f_s1512 (by first | exact x_rbe e_z1511 g_z1511 rfl rfl | exact x_rb g_z1511 rfl rfl | exact ⟨by omega, by omega⟩) ⟨by omega, by omega⟩ (by first | exact x_rb b_x1000 rfl rfl | exact ⟨by omega, by omega⟩) (by first | exact x_rbe e_z1516 g_z1516 rfl rfl | exact x_rb g_z1516 rfl rfl | exact ⟨by omega, by omega⟩) (by first | exact x_rbe e_z1518 g_z1518 rfl rfl | exact x_rb g_z1518 rfl rfl | exact ⟨by omega, by omega⟩) (by first | exact x_rb b_x1003 rfl rfl | exact ⟨by omega, by omega⟩) (by first | exact x_rbe e_z1515 g_z1515 rfl rfl | exact x_rb g_z1515 rfl rfl | exact ⟨by omega, by omega⟩) (by omega) (by omega) (by omega) TK_s1512 (show s1512 178 = s0 178 from funext fun i => f_s1512 178 i (show 1280 ∉ [2501, 2502, 2560, 2688, 2816, 1219, 1220, 1221, 1222, 1223, 2503] from by decide +kernel)) (fun hz => u3.elim (fun u => ⟨by omega, by rw [show z1518 = s1512 218 5 by omega, show z1515 = s1512 177 3 by omega]; exact u.2.2.1, by omega, by omega, by omega⟩) (fun u => by exfalso; omega)) (fun hz => u3.elim (fun u => by exfalso; omega) (fun u => u.2.elim (fun q => Or.inl ⟨by omega, q.2⟩) (fun q => Or.inr ⟨by omega, by rw [show z1516 = s1512 177 5 by omega]; exact q.2⟩))) (by omega) (q1513).symm (e_z1516.symm).symm (e_z1518.symm).symm (q1514).symm (e_z1515.symm).symm  (by omega)
set_option maxHeartbeats 8000000 in
theorem E_X0_read_218_177 (s0 : xS) (hG0 : GI s0) (p_218_6 : 0 ≤ s0 218 6 ∧ s0 218 6 ≤ 7) (pa : s0 177 1 ≤ 100) : xe none 2 0 (lv_args 0 [.ref 218, .ref 177]) [] s0 0 0 (fun s' v => GI s' ∧ FL [2501, 2502, 2560, 2688, 2816, 1219, 1220, 1221, 1222, 1223, 2503] s0 s' ∧ v = none ∧ (0 ≤ s0 218 6 ∧ ((s' 177 5 = 0 ∧ s' 218 6 = s0 218 6 + 1 ∧ AD (s0 178) (s0 177 1)) ∨ (s' 177 5 ≠ 0 ∧ s' 218 6 = s0 218 6 ∧ AF (s0 178) (s0 177 1) (s' 177 5) (s' 177 6))))) := by
  have f0 : FL [2501, 2502, 2560, 2688, 2816, 1219, 1220, 1221, 1222, 1223, 2503] s0 s0 := FL.rf
  show xe none 2 0 [(0, .ref 218), (1, .ref 177)] [] s0 0 0 _
  obtain ⟨z1519, e_z1519⟩ : ∃ z, z = s0 218 6 := ⟨_, rfl⟩
  have g_z1519 : (0 : Int) ≤ s0 218 6 ∧ s0 218 6 ≤ 8 := hG0 218 6
  obtain ⟨z1520, e_z1520⟩ : ∃ z, z = s0 177 1 := ⟨_, rfl⟩
  have g_z1520 : (0 : Int) ≤ s0 177 1 ∧ s0 177 1 ≤ 160 := hG0 177 1
  refine x_A k2_0 (fun _ => rfl) ?_
  refine x_callV k2_1 (y := 48) (n := 0) (w0 := 0) (w1 := 0) (as := []) (rest := []) (by decide +kernel) (q := 177) (nq := 7) (kq := 7) ⟨by decide, rfl⟩ rfl rfl rfl rfl (xe_mono (E_X6_startReading_177 s0 hG0) ?_)
  rintro s1522 v ⟨hG_s1522, t_s1522, rfl, xp_z1521⟩
  have f_s1522 : FL [2501, 2502, 2560, 2688, 2816, 1219, 1220, 1221, 1222, 1223, 2503] s0 s1522 := f0.tr t_s1522 (by decide +kernel)
  have q1523 : s1522 218 6 = z1519 := (t_s1522 218 6 (show 2503 ∉ [1219, 1220, 1221, 1222, 1223] from by decide +kernel)).trans e_z1519.symm
  have q1524 : s1522 177 1 = z1520 := (t_s1522 177 1 (show 1218 ∉ [1219, 1220, 1221, 1222, 1223] from by decide +kernel)).trans e_z1520.symm
  obtain ⟨z1525, e_z1525⟩ : ∃ z, z = s1522 177 5 := ⟨_, rfl⟩
  have g_z1525 : (0 : Int) ≤ s1522 177 5 ∧ s1522 177 5 ≤ 5 := hG_s1522 177 5
  obtain ⟨z1526, e_z1526⟩ : ∃ z, z = s1522 177 6 := ⟨_, rfl⟩
  have g_z1526 : (-2147483648) ≤ s1522 177 6 ∧ s1522 177 6 ≤ 2147483647 := hG_s1522 177 6
  show xe none 2 4 [(0, .ref 218), (1, .ref 177)] [] s1522 0 0 _
  obtain ⟨z1527, e_z1527⟩ : ∃ z, z = s1522 218 5 := ⟨_, rfl⟩
  have g_z1527 : (-2147483648) ≤ s1522 218 5 ∧ s1522 218 5 ≤ 2147483647 := hG_s1522 218 5
  obtain ⟨z1528, e_z1528⟩ : ∃ z, z = s1522 177 3 := ⟨_, rfl⟩
  have g_z1528 : (0 : Int) ≤ s1522 177 3 ∧ s1522 177 3 ≤ 160 := hG_s1522 177 3
  have tq1529 := xp_z1521.2.2
  have TK_s1522 : TKs s1522 := TK.s tq1529 (show s1522 178 = s0 178 from funext fun i => f_s1522 178 i (show 1280 ∉ [2501, 2502, 2560, 2688, 2816, 1219, 1220, 1221, 1222, 1223, 2503] from by decide +kernel)) (by omega)
  have p0_ := tq1529.2.2.1
  have p1_ := tq1529.1
  refine x_A k2_4 (fun _ => rfl) ?_
  refine x_getI k2_5 (f := 6) rfl (q := 218) (n := 7) (kd := 11) ⟨by decide, rfl⟩ (by decide) rfl ?_
  refine x_rw (q1523) ?_
  refine x_bipush k2_8 (by decide +kernel) ?_
  refine x_ic_lt k2_10 (t := 14) rfl (by first | exact x_rbe e_z1519 g_z1519 rfl rfl | exact x_rb g_z1519 rfl rfl | exact ⟨by omega, by omega⟩) ⟨by decide, by decide⟩ (fun c1530 => ?_) (fun c1530 => by exfalso; omega)
  refine x_A k2_14 (fun _ => rfl) ?_
  refine x_getR k2_15 (f := 0) rfl (q := 218) (n := 7) (kd := 11) ⟨by decide, rfl⟩ (q2 := 219) (by decide) rfl ?_
  refine x_A k2_18 (fun _ => rfl) ?_
  refine x_getI k2_19 (f := 6) rfl (q := 218) (n := 7) (kd := 11) ⟨by decide, rfl⟩ (by decide) rfl ?_
  refine x_rw (q1523) ?_
  refine x_A k2_22 (fun _ => rfl) ?_
  refine x_iast k2_23 (q := 219) (n := 8) ⟨by decide, rfl⟩ (by decide) (by first | exact x_rbel e_z1519 g_z1519 rfl rfl | exact x_rbl g_z1519 rfl rfl | exact ⟨by omega, by omega⟩) ?_
  refine x_nh (fun s1531 e_s1531 => ?_)
  have hG_s1531 : GI s1531 := by rw [e_s1531]; exact hG_s1522.up (show 0 ≤ 0 ∧ 0 ≤ 100 from ⟨by decide, by decide⟩)
  have f_s1531 : FL [2501, 2502, 2560, 2688, 2816, 1219, 1220, 1221, 1222, 1223, 2503] s0 s1531 := by rw [e_s1531]; exact f_s1522.up (show 2560 ∈ [2501, 2502, 2560, 2688, 2816, 1219, 1220, 1221, 1222, 1223, 2503] from by decide +kernel)
  have q1532 : s1531 218 6 = z1519 := by rw [e_s1531, x_up_q (by decide)]; exact q1523
  have q1533 : s1531 177 1 = z1520 := by rw [e_s1531, x_up_q (by decide)]; exact q1524
  have q1534 : s1531 177 5 = z1525 := by rw [e_s1531, x_up_q (by decide)]; exact e_z1525.symm
  have q1535 : s1531 177 6 = z1526 := by rw [e_s1531, x_up_q (by decide)]; exact e_z1526.symm
  have q1536 : s1531 218 5 = z1527 := by rw [e_s1531, x_up_q (by decide)]; exact e_z1527.symm
  have q1537 : s1531 177 3 = z1528 := by rw [e_s1531, x_up_q (by decide)]; exact e_z1528.symm
  have q1538 : s1531 219 z1519.toNat = 0 := by rw [e_s1531]; exact x_up_same
  have TK_s1531 : TKs s1531 := by rw [e_s1531]; exact TKs.up TK_s1522 (show 2560 ∉ LTK from by decide)
  refine x_A k2_24 (fun _ => rfl) ?_
  refine x_A k2_25 (fun _ => rfl) ?_
  refine x_putI k2_26 (f := 4) rfl (q := 218) (n := 7) (kd := 11) ⟨by decide, rfl⟩ rfl rfl rfl ?_
  refine x_nh (fun s1539 e_s1539 => ?_)
  have hG_s1539 : GI s1539 := by rw [e_s1539]; exact hG_s1531.up (show 0 ≤ 0 ∧ 0 ≤ 100 from ⟨by decide, by decide⟩)
  have f_s1539 : FL [2501, 2502, 2560, 2688, 2816, 1219, 1220, 1221, 1222, 1223, 2503] s0 s1539 := by rw [e_s1539]; exact f_s1531.up (show 2501 ∈ [2501, 2502, 2560, 2688, 2816, 1219, 1220, 1221, 1222, 1223, 2503] from by decide +kernel)
  have q1540 : s1539 218 6 = z1519 := by rw [e_s1539, x_up_i (by decide)]; exact q1532
  have q1541 : s1539 177 1 = z1520 := by rw [e_s1539, x_up_q (by decide)]; exact q1533
  have q1542 : s1539 177 5 = z1525 := by rw [e_s1539, x_up_q (by decide)]; exact q1534
  have q1543 : s1539 177 6 = z1526 := by rw [e_s1539, x_up_q (by decide)]; exact q1535
  have q1544 : s1539 218 5 = z1527 := by rw [e_s1539, x_up_i (by decide)]; exact q1536
  have q1545 : s1539 177 3 = z1528 := by rw [e_s1539, x_up_q (by decide)]; exact q1537
  have q1546 : s1539 218 4 = 0 := by rw [e_s1539]; exact x_up_same
  have q1547 : s1539 219 z1519.toNat = 0 := by rw [e_s1539, x_up_q (by first | decide | omega)]; exact q1538
  have TK_s1539 : TKs s1539 := by rw [e_s1539]; exact TKs.up TK_s1531 (show 2501 ∉ LTK from by decide)
  refine x_A k2_29 (fun _ => rfl) ?_
  refine x_A k2_30 (fun _ => rfl) ?_
  refine x_putI k2_31 (f := 5) rfl (q := 218) (n := 7) (kd := 11) ⟨by decide, rfl⟩ rfl rfl rfl ?_
  refine x_nh (fun s1548 e_s1548 => ?_)
  have hG_s1548 : GI s1548 := by rw [e_s1548]; exact hG_s1539.up (show (-2147483648) ≤ 0 ∧ 0 ≤ 2147483647 from ⟨by decide, by decide⟩)
  have f_s1548 : FL [2501, 2502, 2560, 2688, 2816, 1219, 1220, 1221, 1222, 1223, 2503] s0 s1548 := by rw [e_s1548]; exact f_s1539.up (show 2502 ∈ [2501, 2502, 2560, 2688, 2816, 1219, 1220, 1221, 1222, 1223, 2503] from by decide +kernel)
  have q1549 : s1548 218 6 = z1519 := by rw [e_s1548, x_up_i (by decide)]; exact q1540
  have q1550 : s1548 177 1 = z1520 := by rw [e_s1548, x_up_q (by decide)]; exact q1541
  have q1551 : s1548 177 5 = z1525 := by rw [e_s1548, x_up_q (by decide)]; exact q1542
  have q1552 : s1548 177 6 = z1526 := by rw [e_s1548, x_up_q (by decide)]; exact q1543
  have q1553 : s1548 177 3 = z1528 := by rw [e_s1548, x_up_q (by decide)]; exact q1545
  have q1554 : s1548 218 4 = 0 := by rw [e_s1548, x_up_i (by decide)]; exact q1546
  have q1555 : s1548 218 5 = 0 := by rw [e_s1548]; exact x_up_same
  have q1556 : s1548 219 z1519.toNat = 0 := by rw [e_s1548, x_up_q (by first | decide | omega)]; exact q1547
  have TK_s1548 : TKs s1548 := by rw [e_s1548]; exact TKs.up TK_s1539 (show 2502 ∉ LTK from by decide)
  refine x_A k2_34 (fun _ => rfl) ?_
  refine x_istore_n k2_35 (ls' := [(2, vi 1), (0, .ref 218), (1, .ref 177)]) (by decide) rfl ?_
  refine x_A k2_36 (fun _ => rfl) ?_
  refine x_istore_n k2_37 (ls' := [(3, vi 0), (2, vi 1), (0, .ref 218), (1, .ref 177)]) (by decide) rfl ?_
  refine x_ls (l := [(0, .ref 218), (1, .ref 177), (2, vi 1), (3, vi 0)]) (show ([0, 1, 2, 3] : List Nat).Nodup from by decide +kernel) ⟨rfl, rfl, rfl, rfl, trivial⟩ ?_
  exact L_E_X0_read_218_177_38 s0 pa  (((100 - 0) + 1 : Int)).toNat s1548 1 0 z1519 z1525 0 z1520 z1528 hG_s1548 f_s1548 ⟨by decide, by decide⟩ ⟨by decide, by decide⟩ (by first | exact x_rbe e_z1519 g_z1519 rfl rfl | exact x_rb g_z1519 rfl rfl | exact ⟨by omega, by omega⟩) (by first | exact x_rbe e_z1525 g_z1525 rfl rfl | exact x_rb g_z1525 rfl rfl | exact ⟨by omega, by omega⟩) ⟨by decide, by decide⟩ (by first | exact x_rbe e_z1520 g_z1520 rfl rfl | exact x_rb g_z1520 rfl rfl | exact ⟨by omega, by omega⟩) (by first | exact x_rbe e_z1528 g_z1528 rfl rfl | exact x_rb g_z1528 rfl rfl | exact ⟨by omega, by omega⟩) (by omega) (by omega) (by omega) TK_s1548 (show s1548 178 = s0 178 from funext fun i => f_s1548 178 i (show 1280 ∉ [2501, 2502, 2560, 2688, 2816, 1219, 1220, 1221, 1222, 1223, 2503] from by decide +kernel)) (fun _ => ⟨by omega, by rw [show z1528 = sk (s0 178) (s0 177 1) 0 by omega]; exact AI_0, by omega, by omega, by omega⟩) (fun hz => by exfalso; omega) (by omega) (q1549).symm (q1551).symm (q1555).symm (q1550).symm (q1553).symm  (by omega)
set_option maxHeartbeats 8000000 in
theorem E_X10_ask_0 (s0 : xS) (hG0 : GI s0)  : xe none 110 0 (lv_args 0 [.ref 0]) [] s0 0 0 (fun s' v => GI s' ∧ FL [2501, 2502, 2560, 2688, 2816, 1219, 1220, 1221, 1222, 1223, 2503, 12, 1218] s0 s' ∧ ∃ z, v = some (vi z) ∧ ((-2147483648) ≤ z ∧ z ≤ 2147483647) ∧ (AkC s0 s' z)) := by
  have f0 : FL [2501, 2502, 2560, 2688, 2816, 1219, 1220, 1221, 1222, 1223, 2503, 12, 1218] s0 s0 := FL.rf
  show xe none 110 0 [(0, .ref 0)] [] s0 0 0 _
  obtain ⟨z1, e_z1⟩ : ∃ z, z = s0 218 6 := ⟨_, rfl⟩
  have g_z1 : (0 : Int) ≤ s0 218 6 ∧ s0 218 6 ≤ 8 := hG0 218 6
  obtain ⟨z2, e_z2⟩ : ∃ z, z = s0 177 1 := ⟨_, rfl⟩
  have g_z2 : (0 : Int) ≤ s0 177 1 ∧ s0 177 1 ≤ 160 := hG0 177 1
  refine x_A k110_0 (fun _ => rfl) ?_
  refine x_getR k110_1 (f := 3) rfl (q := 0) (n := 12) (kd := 3) ⟨by decide, rfl⟩ (q2 := 177) (by decide) rfl ?_
  refine x_getI k110_4 (f := 1) rfl (q := 177) (n := 7) (kd := 7) ⟨by decide, rfl⟩ (by decide) rfl ?_
  refine x_rw (e_z2.symm) ?_
  refine x_bipush k110_7 (by decide +kernel) ?_
  refine x_ic_le k110_9 (t := 16) rfl (by first | exact x_rbe e_z2 g_z2 rfl rfl | exact x_rb g_z2 rfl rfl | exact ⟨by omega, by omega⟩) ⟨by decide, by decide⟩ (fun c3 => ?_) (fun c3 => ?_)
  · skip
    refine x_A k110_16 (fun _ => rfl) ?_
    refine x_getR k110_17 (f := 7) rfl (q := 0) (n := 12) (kd := 3) ⟨by decide, rfl⟩ (q2 := 218) (by decide) rfl ?_
    refine x_getI k110_20 (f := 6) rfl (q := 218) (n := 7) (kd := 11) ⟨by decide, rfl⟩ (by decide) rfl ?_
    refine x_rw (e_z1.symm) ?_
    refine x_bipush k110_23 (by decide +kernel) ?_
    refine x_ic_lt k110_25 (t := 32) rfl (by first | exact x_rbe e_z1 g_z1 rfl rfl | exact x_rb g_z1 rfl rfl | exact ⟨by omega, by omega⟩) ⟨by decide, by decide⟩ (fun c4 => ?_) (fun c4 => ?_)
    · skip
      refine x_A k110_32 (fun _ => rfl) ?_
      refine x_getR k110_33 (f := 7) rfl (q := 0) (n := 12) (kd := 3) ⟨by decide, rfl⟩ (q2 := 218) (by decide) rfl ?_
      refine x_getI k110_36 (f := 6) rfl (q := 218) (n := 7) (kd := 11) ⟨by decide, rfl⟩ (by decide) rfl ?_
      refine x_rw (e_z1.symm) ?_
      refine x_istore_n k110_39 (ls' := [(1, vi z1), (0, .ref 0)]) (by decide) rfl ?_
      refine x_A k110_40 (fun _ => rfl) ?_
      refine x_getR k110_41 (f := 7) rfl (q := 0) (n := 12) (kd := 3) ⟨by decide, rfl⟩ (q2 := 218) (by decide) rfl ?_
      refine x_A k110_44 (fun _ => rfl) ?_
      refine x_getR k110_45 (f := 3) rfl (q := 0) (n := 12) (kd := 3) ⟨by decide, rfl⟩ (q2 := 177) (by decide) rfl ?_
      refine x_callV k110_48 (y := 2) (n := 1) (w0 := 0) (w1 := 1) (as := [.ref 177]) (rest := []) (by decide +kernel) (q := 218) (nq := 7) (kq := 11) ⟨by decide, rfl⟩ rfl rfl rfl rfl (xe_mono (E_X0_read_218_177 s0 hG0 ⟨by omega, by omega⟩ (by omega)) ?_)
      rintro s6 v ⟨hG_s6, t_s6, rfl, xp_z5⟩
      have f_s6 : FL [2501, 2502, 2560, 2688, 2816, 1219, 1220, 1221, 1222, 1223, 2503, 12, 1218] s0 s6 := f0.tr t_s6 (by decide +kernel)
      have q7 : s6 177 1 = z2 := (t_s6 177 1 (show 1218 ∉ [2501, 2502, 2560, 2688, 2816, 1219, 1220, 1221, 1222, 1223, 2503] from by decide +kernel)).trans e_z2.symm
      obtain ⟨z8, e_z8⟩ : ∃ z, z = s6 177 5 := ⟨_, rfl⟩
      have g_z8 : (0 : Int) ≤ s6 177 5 ∧ s6 177 5 ≤ 5 := hG_s6 177 5
      obtain ⟨z9, e_z9⟩ : ∃ z, z = s6 177 6 := ⟨_, rfl⟩
      have g_z9 : (-2147483648) ≤ s6 177 6 ∧ s6 177 6 ≤ 2147483647 := hG_s6 177 6
      obtain ⟨z10, e_z10⟩ : ∃ z, z = s6 218 6 := ⟨_, rfl⟩
      have g_z10 : (0 : Int) ≤ s6 218 6 ∧ s6 218 6 ≤ 8 := hG_s6 218 6
      show xe none 110 51 [(1, vi z1), (0, .ref 0)] [] s6 0 0 _
      refine x_A k110_51 (fun _ => rfl) ?_
      refine x_A k110_52 (fun _ => rfl) ?_
      refine x_callV k110_53 (y := 128) (n := 1) (w0 := 0) (w1 := 1) (as := [vi z1]) (rest := []) (by decide +kernel) (q := 0) (nq := 12) (kq := 3) ⟨by decide, rfl⟩ rfl rfl rfl rfl (xe_mono (E_X10_afterReading_0 s6 hG_s6 z1 (by first | exact x_rbe e_z1 g_z1 rfl rfl | exact x_rb g_z1 rfl rfl | exact ⟨by omega, by omega⟩)) ?_)
      rintro s12 v ⟨hG_s12, t_s12, z11, rfl, g_z11, xp_z11⟩
      have f_s12 : FL [2501, 2502, 2560, 2688, 2816, 1219, 1220, 1221, 1222, 1223, 2503, 12, 1218] s0 s12 := f_s6.tr t_s12 (by decide +kernel)
      have q13 : s12 177 5 = z8 := (t_s12 177 5 (show 1222 ∉ [12, 1218] from by decide +kernel)).trans e_z8.symm
      have q14 : s12 177 6 = z9 := (t_s12 177 6 (show 1223 ∉ [12, 1218] from by decide +kernel)).trans e_z9.symm
      have q15 : s12 218 6 = z10 := (t_s12 218 6 (show 2503 ∉ [12, 1218] from by decide +kernel)).trans e_z10.symm
      obtain ⟨z16, e_z16⟩ : ∃ z, z = s12 0 11 := ⟨_, rfl⟩
      have g_z16 : (-2147483648) ≤ s12 0 11 ∧ s12 0 11 ≤ 2147483647 := hG_s12 0 11
      obtain ⟨z17, e_z17⟩ : ∃ z, z = s12 177 1 := ⟨_, rfl⟩
      have g_z17 : (0 : Int) ≤ s12 177 1 ∧ s12 177 1 ≤ 160 := hG_s12 177 1
      show xe none 110 56 [(1, vi z1), (0, .ref 0)] [vi z11] s12 0 0 _
      exact x_iret k110_56 rfl ⟨hG_s12, f_s12, z11, rfl, (by first | exact x_rbe e_z11 g_z11 rfl rfl | exact x_rb g_z11 rfl rfl | exact ⟨by omega, by omega⟩), (by unfold AkC; exact Or.inr (Or.inr ⟨by omega, by omega, by omega, xp_z5.2.elim (fun u => Or.inl ⟨u.2.2, by omega, by omega, by omega⟩) (fun u => Or.inr ⟨by omega, by rw [show s12 177 5 = s6 177 5 by omega, show s12 177 6 = s6 177 6 by omega]; exact u.2.2, by omega, by omega, by omega⟩)⟩))⟩
    · skip
      refine x_sipush k110_28 (by decide +kernel) ?_
      obtain ⟨z18, e_z18⟩ : ∃ z, z = s0 177 5 := ⟨_, rfl⟩
      have g_z18 : (0 : Int) ≤ s0 177 5 ∧ s0 177 5 ≤ 5 := hG0 177 5
      obtain ⟨z19, e_z19⟩ : ∃ z, z = s0 177 6 := ⟨_, rfl⟩
      have g_z19 : (-2147483648) ≤ s0 177 6 ∧ s0 177 6 ≤ 2147483647 := hG0 177 6
      obtain ⟨z20, e_z20⟩ : ∃ z, z = s0 0 11 := ⟨_, rfl⟩
      have g_z20 : (-2147483648) ≤ s0 0 11 ∧ s0 0 11 ≤ 2147483647 := hG0 0 11
      exact x_iret k110_31 rfl ⟨hG0, f0, (-1004), rfl, ⟨by decide, by decide⟩, (by unfold AkC; exact Or.inr (Or.inl ⟨by omega, by omega, rfl, rfl⟩))⟩
  · skip
    refine x_sipush k110_12 (by decide +kernel) ?_
    obtain ⟨z21, e_z21⟩ : ∃ z, z = s0 177 5 := ⟨_, rfl⟩
    have g_z21 : (0 : Int) ≤ s0 177 5 ∧ s0 177 5 ≤ 5 := hG0 177 5
    obtain ⟨z22, e_z22⟩ : ∃ z, z = s0 177 6 := ⟨_, rfl⟩
    have g_z22 : (-2147483648) ≤ s0 177 6 ∧ s0 177 6 ≤ 2147483647 := hG0 177 6
    obtain ⟨z23, e_z23⟩ : ∃ z, z = s0 0 11 := ⟨_, rfl⟩
    have g_z23 : (-2147483648) ≤ s0 0 11 ∧ s0 0 11 ≤ 2147483647 := hG0 0 11
    exact x_iret k110_15 rfl ⟨hG0, f0, (-1003), rfl, ⟨by decide, by decide⟩, (by unfold AkC; exact Or.inl ⟨by omega, rfl, rfl⟩)⟩
