set_option maxHeartbeats 8000000 in
theorem L_E_X0_readUpToJoin_218_177_2 (s0 : xS) (pa : s0 177 1 ≤ 100 ∧ 0 ≤ s0 218 5 ∧ s0 218 5 ≤ 6 ∧ (s0 177 5 = 0 → s0 218 5 ≤ 5) ∧ 0 ≤ s0 177 3 ∧ s0 177 3 ≤ s0 177 1) (pe : s0 177 5 = 0 → AI (s0 178) (s0 177 1) 0 (s0 218 5) (s0 177 3)) (pf : s0 177 5 ≠ 0 → AF (s0 178) (s0 177 1) (s0 177 5) (s0 177 6))  : ∀ (n : Nat) (s : xS) (x2 : Int) (x1000 : Int) (x1001 : Int) (x1002 : Int) (x1003 : Int) (hG : GI s) (f : FL [2501, 2502, 2560, 2688, 2816, 1219, 1220, 1221, 1222, 1223] s0 s) (b_x2 : 0 ≤ x2 ∧ x2 ≤ 6) (b_x1000 : 0 ≤ x1000 ∧ x1000 ≤ 5) (b_x1001 : (-2147483648) ≤ x1001 ∧ x1001 ≤ 2147483647) (b_x1002 : 0 ≤ x1002 ∧ x1002 ≤ 160) (b_x1003 : 0 ≤ x1003 ∧ x1003 ≤ 160) (w_0 : x1002 = s0 177 1 ∧ x1002 ≤ 100) (w_1 : s 178 = s0 178) (w_2 : x1000 = 0 → AI (s0 178) (s0 177 1) 0 x1001 x1003) (w_3 : x1000 ≠ 0 → AF (s0 178) (s0 177 1) x1000 (s 177 6)) (w_4 : 0 ≤ x1001 ∧ x1001 ≤ 6 ∧ (x1000 = 0 → x1001 + x2 ≤ 5)) (w_5 : 0 ≤ s0 177 3 ∧ s0 177 3 ≤ x1003 ∧ x1003 ≤ x1002) (w_6 : x1000 = s0 177 5) (e_x1000 : x1000 = s 177 5) (e_x1001 : x1001 = s 218 5) (e_x1002 : x1002 = s 177 1) (e_x1003 : x1003 = s 177 3) (i_TK : TKs s)  (hm : (6 - x2) < (n : Int)), xe none 8 2 [(0, .ref 218), (1, .ref 177), (2, vi x2)] [] s 0 0 (fun s' v => GI s' ∧ FL [2501, 2502, 2560, 2688, 2816, 1219, 1220, 1221, 1222, 1223] s0 s' ∧ ∃ z, v = some (vi z) ∧ (0 ≤ z ∧ z ≤ 1) ∧ ((z = 1 ∧ s' 177 5 = 0 ∧ AI (s0 178) (s0 177 1) 1 (s' 218 5) (s' 177 3) ∧ (0 ≤ s' 218 5 ∧ s' 218 5 ≤ 5) ∧ s0 177 3 ≤ s' 177 3 ∧ s0 177 5 = 0) ∨ (z = 0 ∧ ((s' 177 5 = 0 ∧ AD (s0 178) (s0 177 1)) ∨ (s' 177 5 ≠ 0 ∧ AF (s0 178) (s0 177 1) (s' 177 5) (s' 177 6))))) ∧ TKs s') := by
  intro n
  induction n with
  | zero => intro s x2 x1000 x1001 x1002 x1003 hG f b_x2 b_x1000 b_x1001 b_x1002 b_x1003 w_0 w_1 w_2 w_3 w_4 w_5 w_6 e_x1000 e_x1001 e_x1002 e_x1003 i_TK  hm; exfalso; omega
  | succ n ih =>
    intro s x2 x1000 x1001 x1002 x1003 hG f b_x2 b_x1000 b_x1001 b_x1002 b_x1003 w_0 w_1 w_2 w_3 w_4 w_5 w_6 e_x1000 e_x1001 e_x1002 e_x1003 i_TK  hm
    refine x_A k8_2 (fun _ => rfl) ?_
    refine x_A k8_3 (fun _ => rfl) ?_
    refine x_ic_gt k8_4 (t := 47) rfl (by first | exact x_rb b_x2 rfl rfl | exact ⟨by omega, by omega⟩) ⟨by decide, by decide⟩ (fun c1577 => ?_) (fun c1577 => ?_)
    · skip
      refine x_A k8_47 (fun _ => rfl) ?_
      refine x_getI k8_48 (f := 5) rfl (q := 177) (n := 7) (kd := 7) ⟨by decide, rfl⟩ (by decide) rfl ?_
      refine x_rw (e_x1000.symm) ?_
      refine x_if_eq k8_51 (t := 56) rfl (by first | exact x_rb b_x1000 rfl rfl | exact ⟨by omega, by omega⟩) (fun c1578 => ?_) (fun c1578 => ?_)
      · skip
        have tkL := i_TK
        unfold TKs TK at tkL
        rw [w_1, show s 177 1 = s0 177 1 by omega, show s 177 3 = x1003 by omega] at tkL
        have tlL := te_le (T := s0 178) (n := s0 177 1) (p := x1003)
        have slL := sk_le (T := s0 178) (n := s0 177 1) (p := te (s0 178) (s0 177 1) x1003)
        obtain ⟨z1579, e_z1579⟩ : ∃ z, z = s 177 4 := ⟨_, rfl⟩
        have g_z1579 : (0 : Int) ≤ s 177 4 ∧ s 177 4 ≤ 160 := hG 177 4
        obtain ⟨z1580, e_z1580⟩ : ∃ z, z = s 177 6 := ⟨_, rfl⟩
        have g_z1580 : (-2147483648) ≤ s 177 6 ∧ s 177 6 ≤ 2147483647 := hG 177 6
        refine x_A k8_56 (fun _ => rfl) ?_
        refine x_getI k8_57 (f := 2) rfl (q := 177) (n := 7) (kd := 7) ⟨by decide, rfl⟩ (by decide) rfl ?_
        refine x_top (fun z1581 e_z1581 => ?_)
        have g_z1581 : (0 : Int) ≤ s 177 2 ∧ s 177 2 ≤ 3 := hG 177 2
        refine x_if_ne k8_60 (t := 72) rfl (by first | exact x_rbe e_z1581 g_z1581 rfl rfl | exact x_rb g_z1581 rfl rfl | exact ⟨by omega, by omega⟩) (fun c1582 => ?_) (fun c1582 => ?_)
        · skip
          refine x_A k8_72 (fun _ => rfl) ?_
          refine x_ldcR k8_73 (q := 2007) rfl ?_
          refine x_callV k8_75 (y := 53) (n := 1) (w0 := 0) (w1 := 1) (as := [.ref 2007]) (rest := []) (by decide +kernel) (q := 177) (nq := 7) (kq := 7) ⟨by decide, rfl⟩ rfl rfl rfl rfl (xe_mono (E_X6_isWord_177_2007 s hG i_TK) ?_)
          rintro s1584 v ⟨-, t_s1584, z1583, rfl, g_z1583, xp_z1583⟩
          rw [t_s1584.nil]
          try rw [t_s1584.nil] at xp_z1583
          show xe none 8 78 [(0, .ref 218), (1, .ref 177), (2, vi x2)] [vi z1583] s 0 0 _
          have sa := xp_z1583
          rw [w_1, show s 177 1 = s0 177 1 by omega, show s 177 3 = x1003 by omega] at sa
          refine x_if_eq k8_78 (t := 90) rfl (by first | exact x_rbe e_z1583 g_z1583 rfl rfl | exact x_rb g_z1583 rfl rfl | exact ⟨by omega, by omega⟩) (fun c1585 => ?_) (fun c1585 => ?_)
          · skip
            refine x_A k8_90 (fun _ => rfl) ?_
            refine x_ldcR k8_91 (q := 2008) rfl ?_
            refine x_callV k8_93 (y := 53) (n := 1) (w0 := 0) (w1 := 1) (as := [.ref 2008]) (rest := []) (by decide +kernel) (q := 177) (nq := 7) (kq := 7) ⟨by decide, rfl⟩ rfl rfl rfl rfl (xe_mono (E_X6_isWord_177_2008 s hG i_TK) ?_)
            rintro s1587 v ⟨-, t_s1587, z1586, rfl, g_z1586, xp_z1586⟩
            rw [t_s1587.nil]
            try rw [t_s1587.nil] at xp_z1586
            show xe none 8 96 [(0, .ref 218), (1, .ref 177), (2, vi x2)] [vi z1586] s 0 0 _
            have so := xp_z1586
            rw [w_1, show s 177 1 = s0 177 1 by omega, show s 177 3 = x1003 by omega] at so
            refine x_if_eq k8_96 (t := 108) rfl (by first | exact x_rbe e_z1586 g_z1586 rfl rfl | exact x_rb g_z1586 rfl rfl | exact ⟨by omega, by omega⟩) (fun c1588 => ?_) (fun c1588 => ?_)
            · skip
              refine x_A k8_108 (fun _ => rfl) ?_
              refine x_A k8_109 (fun _ => rfl) ?_
              refine x_A k8_110 (fun _ => rfl) ?_
              refine x_getI k8_111 (f := 3) rfl (q := 177) (n := 7) (kd := 7) ⟨by decide, rfl⟩ (by decide) rfl ?_
              refine x_rw (e_x1003.symm) ?_
              refine x_callV k8_114 (y := 52) (n := 2) (w0 := 0) (w1 := 2) (as := [vi 1, vi x1003]) (rest := []) (by decide +kernel) (q := 177) (nq := 7) (kq := 7) ⟨by decide, rfl⟩ rfl rfl rfl rfl (xe_mono (E_X6_fail_177 s hG 1 ⟨by decide, by decide⟩ x1003 (by first | exact x_rb b_x1003 rfl rfl | exact ⟨by omega, by omega⟩)) ?_)
              rintro s1590 v ⟨hG_s1590, t_s1590, rfl, xp_z1589⟩
              have f_s1590 : FL [2501, 2502, 2560, 2688, 2816, 1219, 1220, 1221, 1222, 1223] s0 s1590 := f.tr t_s1590 (by decide +kernel)
              have q1591 : s1590 218 5 = x1001 := (t_s1590 218 5 (show 2502 ∉ [1222, 1223] from by decide +kernel)).trans e_x1001.symm
              have q1592 : s1590 177 1 = x1002 := (t_s1590 177 1 (show 1218 ∉ [1222, 1223] from by decide +kernel)).trans e_x1002.symm
              have q1593 : s1590 177 3 = x1003 := (t_s1590 177 3 (show 1220 ∉ [1222, 1223] from by decide +kernel)).trans e_x1003.symm
              have q1594 : s1590 177 4 = z1579 := (t_s1590 177 4 (show 1221 ∉ [1222, 1223] from by decide +kernel)).trans e_z1579.symm
              have q1595 : s1590 177 2 = z1581 := (t_s1590 177 2 (show 1219 ∉ [1222, 1223] from by decide +kernel)).trans e_z1581.symm
              have TK_s1590 : TKs s1590 := TKs.fl i_TK t_s1590 (by decide +kernel)
              obtain ⟨z1596, e_z1596⟩ : ∃ z, z = s1590 177 5 := ⟨_, rfl⟩
              have g_z1596 : (0 : Int) ≤ s1590 177 5 ∧ s1590 177 5 ≤ 5 := hG_s1590 177 5
              obtain ⟨z1597, e_z1597⟩ : ∃ z, z = s1590 177 6 := ⟨_, rfl⟩
              have g_z1597 : (-2147483648) ≤ s1590 177 6 ∧ s1590 177 6 ≤ 2147483647 := hG_s1590 177 6
              show xe none 8 117 [(0, .ref 218), (1, .ref 177), (2, vi x2)] [] s1590 0 0 _
              refine x_A k8_117 (fun _ => rfl) ?_
              refine x_getI k8_118 (f := 5) rfl (q := 177) (n := 7) (kd := 7) ⟨by decide, rfl⟩ (by decide) rfl ?_
              refine x_rw (e_z1596.symm) ?_
              refine x_if_eq k8_121 (t := 126) rfl (by first | exact x_rbe e_z1596 g_z1596 rfl rfl | exact x_rb g_z1596 rfl rfl | exact ⟨by omega, by omega⟩) (fun c1598 => by exfalso; omega) (fun c1598 => ?_)
              refine x_A k8_124 (fun _ => rfl) ?_
              exact x_zret k8_125 rfl ⟨by omega, by omega⟩ ⟨hG_s1590, f_s1590, 0, rfl, ⟨by decide, by decide⟩, Or.inr ⟨rfl, Or.inr ⟨by omega, by rw [show s1590 177 5 = 1 by omega, show s1590 177 6 = x1003 by omega]; exact (w_2 (by omega)).bad ⟨by omega, by omega⟩ (by omega) (by have kc := kd_cs (T := s0 178) (n := s0 177 1) (p := x1003); omega)⟩⟩, TK_s1590⟩
            · skip
              refine x_A k8_99 (fun _ => rfl) ?_
              refine x_bipush k8_100 (by decide +kernel) ?_
              refine x_callV k8_102 (y := 10) (n := 1) (w0 := 0) (w1 := 1) (as := [vi 7]) (rest := []) (by decide +kernel) (q := 218) (nq := 7) (kq := 11) ⟨by decide, rfl⟩ rfl rfl rfl rfl (xe_mono (C_X0_joinBy_218 s hG 7 ⟨by decide, by decide⟩) ?_)
              rintro s1600 v ⟨hG_s1600, t_s1600, rfl⟩
              have f_s1600 : FL [2501, 2502, 2560, 2688, 2816, 1219, 1220, 1221, 1222, 1223] s0 s1600 := f.tr t_s1600 (by decide +kernel)
              have q1601 : s1600 177 5 = x1000 := (t_s1600 177 5 (show 1222 ∉ [2501, 2560, 2688, 2816] from by decide +kernel)).trans e_x1000.symm
              have q1602 : s1600 218 5 = x1001 := (t_s1600 218 5 (show 2502 ∉ [2501, 2560, 2688, 2816] from by decide +kernel)).trans e_x1001.symm
              have q1603 : s1600 177 1 = x1002 := (t_s1600 177 1 (show 1218 ∉ [2501, 2560, 2688, 2816] from by decide +kernel)).trans e_x1002.symm
              have q1604 : s1600 177 3 = x1003 := (t_s1600 177 3 (show 1220 ∉ [2501, 2560, 2688, 2816] from by decide +kernel)).trans e_x1003.symm
              have q1605 : s1600 177 4 = z1579 := (t_s1600 177 4 (show 1221 ∉ [2501, 2560, 2688, 2816] from by decide +kernel)).trans e_z1579.symm
              have q1606 : s1600 177 6 = z1580 := (t_s1600 177 6 (show 1223 ∉ [2501, 2560, 2688, 2816] from by decide +kernel)).trans e_z1580.symm
              have q1607 : s1600 177 2 = z1581 := (t_s1600 177 2 (show 1219 ∉ [2501, 2560, 2688, 2816] from by decide +kernel)).trans e_z1581.symm
              have TK_s1600 : TKs s1600 := TKs.fl i_TK t_s1600 (by decide +kernel)
              show xe none 8 105 [(0, .ref 218), (1, .ref 177), (2, vi x2)] [] s1600 0 0 _
              refine x_goto k8_105 (t := 117) rfl ?_
              refine x_A k8_117 (fun _ => rfl) ?_
              refine x_getI k8_118 (f := 5) rfl (q := 177) (n := 7) (kd := 7) ⟨by decide, rfl⟩ (by decide) rfl ?_
              refine x_rw (q1601) ?_
              refine x_if_eq k8_121 (t := 126) rfl (by first | exact x_rb b_x1000 rfl rfl | exact ⟨by omega, by omega⟩) (fun c1608 => ?_) (fun c1608 => by exfalso; omega)
              refine x_A k8_126 (fun _ => rfl) ?_
              refine x_callV k8_127 (y := 51) (n := 0) (w0 := 0) (w1 := 0) (as := []) (rest := []) (by decide +kernel) (q := 177) (nq := 7) (kq := 7) ⟨by decide, rfl⟩ rfl rfl rfl rfl (xe_mono (E_X6_advance_177 s1600 hG_s1600 (by omega)) ?_)
              rintro s1610 v ⟨hG_s1610, t_s1610, rfl, xp_z1609⟩
              have f_s1610 : FL [2501, 2502, 2560, 2688, 2816, 1219, 1220, 1221, 1222, 1223] s0 s1610 := f_s1600.tr t_s1610 (by decide +kernel)
              have q1611 : s1610 177 5 = x1000 := (t_s1610 177 5 (show 1222 ∉ [1219, 1220, 1221] from by decide +kernel)).trans q1601
              have q1612 : s1610 218 5 = x1001 := (t_s1610 218 5 (show 2502 ∉ [1219, 1220, 1221] from by decide +kernel)).trans q1602
              have q1613 : s1610 177 1 = x1002 := (t_s1610 177 1 (show 1218 ∉ [1219, 1220, 1221] from by decide +kernel)).trans q1603
              have q1614 : s1610 177 6 = z1580 := (t_s1610 177 6 (show 1223 ∉ [1219, 1220, 1221] from by decide +kernel)).trans q1606
              show xe none 8 130 [(0, .ref 218), (1, .ref 177), (2, vi x2)] [] s1610 0 0 _
              have tq1615 := xp_z1609
              rw [show s1600 178 = s0 178 from funext fun i => f_s1600 178 i (show 1280 ∉ [2501, 2502, 2560, 2688, 2816, 1219, 1220, 1221, 1222, 1223] from by decide +kernel), show s1600 177 1 = s0 177 1 from f_s1600 177 1 (show 1218 ∉ [2501, 2502, 2560, 2688, 2816, 1219, 1220, 1221, 1222, 1223] from by decide +kernel), show s1600 177 4 = te (s0 178) (s0 177 1) x1003 by omega] at tq1615
              have TK_s1610 : TKs s1610 := TK.s tq1615 (show s1610 178 = s0 178 from funext fun i => f_s1610 178 i (show 1280 ∉ [2501, 2502, 2560, 2688, 2816, 1219, 1220, 1221, 1222, 1223] from by decide +kernel)) (by omega)
              have nq : s1610 177 3 = nx (s0 178) (s0 177 1) x1003 := tq1615.2.2.1
              have nr : nx (s0 178) (s0 177 1) x1003 = sk (s0 178) (s0 177 1) (te (s0 178) (s0 177 1) x1003) := rfl
              obtain ⟨z1616, e_z1616⟩ : ∃ z, z = s1610 177 3 := ⟨_, rfl⟩
              have g_z1616 : (0 : Int) ≤ s1610 177 3 ∧ s1610 177 3 ≤ 160 := hG_s1610 177 3
              unfold TK at tq1615
              refine x_A k8_130 (fun _ => rfl) ?_
              exact x_zret k8_131 rfl ⟨by omega, by omega⟩ ⟨hG_s1610, f_s1610, 1, rfl, ⟨by decide, by decide⟩, Or.inl ⟨rfl, by omega, by rw [show s1610 218 5 = x1001 by omega, show s1610 177 3 = nx (s0 178) (s0 177 1) x1003 by omega]; exact (w_2 (by omega)).jn (by omega), ⟨by omega, by omega⟩, by omega, by omega⟩, TK_s1610⟩
          · skip
            refine x_A k8_81 (fun _ => rfl) ?_
            refine x_bipush k8_82 (by decide +kernel) ?_
            refine x_callV k8_84 (y := 10) (n := 1) (w0 := 0) (w1 := 1) (as := [vi 8]) (rest := []) (by decide +kernel) (q := 218) (nq := 7) (kq := 11) ⟨by decide, rfl⟩ rfl rfl rfl rfl (xe_mono (C_X0_joinBy_218 s hG 8 ⟨by decide, by decide⟩) ?_)
            rintro s1618 v ⟨hG_s1618, t_s1618, rfl⟩
            have f_s1618 : FL [2501, 2502, 2560, 2688, 2816, 1219, 1220, 1221, 1222, 1223] s0 s1618 := f.tr t_s1618 (by decide +kernel)
            have q1619 : s1618 177 5 = x1000 := (t_s1618 177 5 (show 1222 ∉ [2501, 2560, 2688, 2816] from by decide +kernel)).trans e_x1000.symm
            have q1620 : s1618 218 5 = x1001 := (t_s1618 218 5 (show 2502 ∉ [2501, 2560, 2688, 2816] from by decide +kernel)).trans e_x1001.symm
            have q1621 : s1618 177 1 = x1002 := (t_s1618 177 1 (show 1218 ∉ [2501, 2560, 2688, 2816] from by decide +kernel)).trans e_x1002.symm
            have q1622 : s1618 177 3 = x1003 := (t_s1618 177 3 (show 1220 ∉ [2501, 2560, 2688, 2816] from by decide +kernel)).trans e_x1003.symm
            have q1623 : s1618 177 4 = z1579 := (t_s1618 177 4 (show 1221 ∉ [2501, 2560, 2688, 2816] from by decide +kernel)).trans e_z1579.symm
            have q1624 : s1618 177 6 = z1580 := (t_s1618 177 6 (show 1223 ∉ [2501, 2560, 2688, 2816] from by decide +kernel)).trans e_z1580.symm
            have q1625 : s1618 177 2 = z1581 := (t_s1618 177 2 (show 1219 ∉ [2501, 2560, 2688, 2816] from by decide +kernel)).trans e_z1581.symm
            have TK_s1618 : TKs s1618 := TKs.fl i_TK t_s1618 (by decide +kernel)
            show xe none 8 87 [(0, .ref 218), (1, .ref 177), (2, vi x2)] [] s1618 0 0 _
            refine x_goto k8_87 (t := 117) rfl ?_
            refine x_A k8_117 (fun _ => rfl) ?_
            refine x_getI k8_118 (f := 5) rfl (q := 177) (n := 7) (kd := 7) ⟨by decide, rfl⟩ (by decide) rfl ?_
            refine x_rw (q1619) ?_
            refine x_if_eq k8_121 (t := 126) rfl (by first | exact x_rb b_x1000 rfl rfl | exact ⟨by omega, by omega⟩) (fun c1626 => ?_) (fun c1626 => by exfalso; omega)
            refine x_A k8_126 (fun _ => rfl) ?_
            refine x_callV k8_127 (y := 51) (n := 0) (w0 := 0) (w1 := 0) (as := []) (rest := []) (by decide +kernel) (q := 177) (nq := 7) (kq := 7) ⟨by decide, rfl⟩ rfl rfl rfl rfl (xe_mono (E_X6_advance_177 s1618 hG_s1618 (by omega)) ?_)
            rintro s1628 v ⟨hG_s1628, t_s1628, rfl, xp_z1627⟩
            have f_s1628 : FL [2501, 2502, 2560, 2688, 2816, 1219, 1220, 1221, 1222, 1223] s0 s1628 := f_s1618.tr t_s1628 (by decide +kernel)
            have q1629 : s1628 177 5 = x1000 := (t_s1628 177 5 (show 1222 ∉ [1219, 1220, 1221] from by decide +kernel)).trans q1619
            have q1630 : s1628 218 5 = x1001 := (t_s1628 218 5 (show 2502 ∉ [1219, 1220, 1221] from by decide +kernel)).trans q1620
            have q1631 : s1628 177 1 = x1002 := (t_s1628 177 1 (show 1218 ∉ [1219, 1220, 1221] from by decide +kernel)).trans q1621
            have q1632 : s1628 177 6 = z1580 := (t_s1628 177 6 (show 1223 ∉ [1219, 1220, 1221] from by decide +kernel)).trans q1624
            show xe none 8 130 [(0, .ref 218), (1, .ref 177), (2, vi x2)] [] s1628 0 0 _
            have tq1633 := xp_z1627
            rw [show s1618 178 = s0 178 from funext fun i => f_s1618 178 i (show 1280 ∉ [2501, 2502, 2560, 2688, 2816, 1219, 1220, 1221, 1222, 1223] from by decide +kernel), show s1618 177 1 = s0 177 1 from f_s1618 177 1 (show 1218 ∉ [2501, 2502, 2560, 2688, 2816, 1219, 1220, 1221, 1222, 1223] from by decide +kernel), show s1618 177 4 = te (s0 178) (s0 177 1) x1003 by omega] at tq1633
            have TK_s1628 : TKs s1628 := TK.s tq1633 (show s1628 178 = s0 178 from funext fun i => f_s1628 178 i (show 1280 ∉ [2501, 2502, 2560, 2688, 2816, 1219, 1220, 1221, 1222, 1223] from by decide +kernel)) (by omega)
            have nq : s1628 177 3 = nx (s0 178) (s0 177 1) x1003 := tq1633.2.2.1
            have nr : nx (s0 178) (s0 177 1) x1003 = sk (s0 178) (s0 177 1) (te (s0 178) (s0 177 1) x1003) := rfl
            obtain ⟨z1634, e_z1634⟩ : ∃ z, z = s1628 177 3 := ⟨_, rfl⟩
            have g_z1634 : (0 : Int) ≤ s1628 177 3 ∧ s1628 177 3 ≤ 160 := hG_s1628 177 3
            unfold TK at tq1633
            refine x_A k8_130 (fun _ => rfl) ?_
            exact x_zret k8_131 rfl ⟨by omega, by omega⟩ ⟨hG_s1628, f_s1628, 1, rfl, ⟨by decide, by decide⟩, Or.inl ⟨rfl, by omega, by rw [show s1628 218 5 = x1001 by omega, show s1628 177 3 = nx (s0 178) (s0 177 1) x1003 by omega]; exact (w_2 (by omega)).jn (by omega), ⟨by omega, by omega⟩, by omega, by omega⟩, TK_s1628⟩
        · skip
          refine x_A k8_63 (fun _ => rfl) ?_
          refine x_getI k8_64 (f := 5) rfl (q := 218) (n := 7) (kd := 11) ⟨by decide, rfl⟩ (by decide) rfl ?_
          refine x_rw (e_x1001.symm) ?_
          refine x_if_ne k8_67 (t := 72) rfl (by first | exact x_rb b_x1001 rfl rfl | exact ⟨by omega, by omega⟩) (fun c1635 => ?_) (fun c1635 => ?_)
          · skip
            refine x_A k8_72 (fun _ => rfl) ?_
            refine x_ldcR k8_73 (q := 2007) rfl ?_
            refine x_callV k8_75 (y := 53) (n := 1) (w0 := 0) (w1 := 1) (as := [.ref 2007]) (rest := []) (by decide +kernel) (q := 177) (nq := 7) (kq := 7) ⟨by decide, rfl⟩ rfl rfl rfl rfl (xe_mono (E_X6_isWord_177_2007 s hG i_TK) ?_)
            rintro s1637 v ⟨-, t_s1637, z1636, rfl, g_z1636, xp_z1636⟩
            rw [t_s1637.nil]
            try rw [t_s1637.nil] at xp_z1636
            show xe none 8 78 [(0, .ref 218), (1, .ref 177), (2, vi x2)] [vi z1636] s 0 0 _
            have sa := xp_z1636
            rw [w_1, show s 177 1 = s0 177 1 by omega, show s 177 3 = x1003 by omega] at sa
            refine x_if_eq k8_78 (t := 90) rfl (by first | exact x_rbe e_z1636 g_z1636 rfl rfl | exact x_rb g_z1636 rfl rfl | exact ⟨by omega, by omega⟩) (fun c1638 => ?_) (fun c1638 => ?_)
            · skip
              refine x_A k8_90 (fun _ => rfl) ?_
              refine x_ldcR k8_91 (q := 2008) rfl ?_
              refine x_callV k8_93 (y := 53) (n := 1) (w0 := 0) (w1 := 1) (as := [.ref 2008]) (rest := []) (by decide +kernel) (q := 177) (nq := 7) (kq := 7) ⟨by decide, rfl⟩ rfl rfl rfl rfl (xe_mono (E_X6_isWord_177_2008 s hG i_TK) ?_)
              rintro s1640 v ⟨-, t_s1640, z1639, rfl, g_z1639, xp_z1639⟩
              rw [t_s1640.nil]
              try rw [t_s1640.nil] at xp_z1639
              show xe none 8 96 [(0, .ref 218), (1, .ref 177), (2, vi x2)] [vi z1639] s 0 0 _
              have so := xp_z1639
              rw [w_1, show s 177 1 = s0 177 1 by omega, show s 177 3 = x1003 by omega] at so
              refine x_if_eq k8_96 (t := 108) rfl (by first | exact x_rbe e_z1639 g_z1639 rfl rfl | exact x_rb g_z1639 rfl rfl | exact ⟨by omega, by omega⟩) (fun c1641 => ?_) (fun c1641 => ?_)
              · skip
                refine x_A k8_108 (fun _ => rfl) ?_
                refine x_A k8_109 (fun _ => rfl) ?_
                refine x_A k8_110 (fun _ => rfl) ?_
                refine x_getI k8_111 (f := 3) rfl (q := 177) (n := 7) (kd := 7) ⟨by decide, rfl⟩ (by decide) rfl ?_
                refine x_rw (e_x1003.symm) ?_
                refine x_callV k8_114 (y := 52) (n := 2) (w0 := 0) (w1 := 2) (as := [vi 1, vi x1003]) (rest := []) (by decide +kernel) (q := 177) (nq := 7) (kq := 7) ⟨by decide, rfl⟩ rfl rfl rfl rfl (xe_mono (E_X6_fail_177 s hG 1 ⟨by decide, by decide⟩ x1003 (by first | exact x_rb b_x1003 rfl rfl | exact ⟨by omega, by omega⟩)) ?_)
                rintro s1643 v ⟨hG_s1643, t_s1643, rfl, xp_z1642⟩
                have f_s1643 : FL [2501, 2502, 2560, 2688, 2816, 1219, 1220, 1221, 1222, 1223] s0 s1643 := f.tr t_s1643 (by decide +kernel)
                have q1644 : s1643 218 5 = x1001 := (t_s1643 218 5 (show 2502 ∉ [1222, 1223] from by decide +kernel)).trans e_x1001.symm
                have q1645 : s1643 177 1 = x1002 := (t_s1643 177 1 (show 1218 ∉ [1222, 1223] from by decide +kernel)).trans e_x1002.symm
                have q1646 : s1643 177 3 = x1003 := (t_s1643 177 3 (show 1220 ∉ [1222, 1223] from by decide +kernel)).trans e_x1003.symm
                have q1647 : s1643 177 4 = z1579 := (t_s1643 177 4 (show 1221 ∉ [1222, 1223] from by decide +kernel)).trans e_z1579.symm
                have q1648 : s1643 177 2 = z1581 := (t_s1643 177 2 (show 1219 ∉ [1222, 1223] from by decide +kernel)).trans e_z1581.symm
                have TK_s1643 : TKs s1643 := TKs.fl i_TK t_s1643 (by decide +kernel)
                obtain ⟨z1649, e_z1649⟩ : ∃ z, z = s1643 177 5 := ⟨_, rfl⟩
                have g_z1649 : (0 : Int) ≤ s1643 177 5 ∧ s1643 177 5 ≤ 5 := hG_s1643 177 5
                obtain ⟨z1650, e_z1650⟩ : ∃ z, z = s1643 177 6 := ⟨_, rfl⟩
                have g_z1650 : (-2147483648) ≤ s1643 177 6 ∧ s1643 177 6 ≤ 2147483647 := hG_s1643 177 6
                show xe none 8 117 [(0, .ref 218), (1, .ref 177), (2, vi x2)] [] s1643 0 0 _
                refine x_A k8_117 (fun _ => rfl) ?_
                refine x_getI k8_118 (f := 5) rfl (q := 177) (n := 7) (kd := 7) ⟨by decide, rfl⟩ (by decide) rfl ?_
                refine x_rw (e_z1649.symm) ?_
                refine x_if_eq k8_121 (t := 126) rfl (by first | exact x_rbe e_z1649 g_z1649 rfl rfl | exact x_rb g_z1649 rfl rfl | exact ⟨by omega, by omega⟩) (fun c1651 => by exfalso; omega) (fun c1651 => ?_)
                refine x_A k8_124 (fun _ => rfl) ?_
                exact x_zret k8_125 rfl ⟨by omega, by omega⟩ ⟨hG_s1643, f_s1643, 0, rfl, ⟨by decide, by decide⟩, Or.inr ⟨rfl, Or.inr ⟨by omega, by rw [show s1643 177 5 = 1 by omega, show s1643 177 6 = x1003 by omega]; exact (w_2 (by omega)).bad ⟨by omega, by omega⟩ (by omega) (by have kc := kd_cs (T := s0 178) (n := s0 177 1) (p := x1003); omega)⟩⟩, TK_s1643⟩
              · skip
                refine x_A k8_99 (fun _ => rfl) ?_
                refine x_bipush k8_100 (by decide +kernel) ?_
                refine x_callV k8_102 (y := 10) (n := 1) (w0 := 0) (w1 := 1) (as := [vi 7]) (rest := []) (by decide +kernel) (q := 218) (nq := 7) (kq := 11) ⟨by decide, rfl⟩ rfl rfl rfl rfl (xe_mono (C_X0_joinBy_218 s hG 7 ⟨by decide, by decide⟩) ?_)
                rintro s1653 v ⟨hG_s1653, t_s1653, rfl⟩
                have f_s1653 : FL [2501, 2502, 2560, 2688, 2816, 1219, 1220, 1221, 1222, 1223] s0 s1653 := f.tr t_s1653 (by decide +kernel)
                have q1654 : s1653 177 5 = x1000 := (t_s1653 177 5 (show 1222 ∉ [2501, 2560, 2688, 2816] from by decide +kernel)).trans e_x1000.symm
                have q1655 : s1653 218 5 = x1001 := (t_s1653 218 5 (show 2502 ∉ [2501, 2560, 2688, 2816] from by decide +kernel)).trans e_x1001.symm
                have q1656 : s1653 177 1 = x1002 := (t_s1653 177 1 (show 1218 ∉ [2501, 2560, 2688, 2816] from by decide +kernel)).trans e_x1002.symm
                have q1657 : s1653 177 3 = x1003 := (t_s1653 177 3 (show 1220 ∉ [2501, 2560, 2688, 2816] from by decide +kernel)).trans e_x1003.symm
                have q1658 : s1653 177 4 = z1579 := (t_s1653 177 4 (show 1221 ∉ [2501, 2560, 2688, 2816] from by decide +kernel)).trans e_z1579.symm
                have q1659 : s1653 177 6 = z1580 := (t_s1653 177 6 (show 1223 ∉ [2501, 2560, 2688, 2816] from by decide +kernel)).trans e_z1580.symm
                have q1660 : s1653 177 2 = z1581 := (t_s1653 177 2 (show 1219 ∉ [2501, 2560, 2688, 2816] from by decide +kernel)).trans e_z1581.symm
                have TK_s1653 : TKs s1653 := TKs.fl i_TK t_s1653 (by decide +kernel)
                show xe none 8 105 [(0, .ref 218), (1, .ref 177), (2, vi x2)] [] s1653 0 0 _
                refine x_goto k8_105 (t := 117) rfl ?_
                refine x_A k8_117 (fun _ => rfl) ?_
                refine x_getI k8_118 (f := 5) rfl (q := 177) (n := 7) (kd := 7) ⟨by decide, rfl⟩ (by decide) rfl ?_
                refine x_rw (q1654) ?_
                refine x_if_eq k8_121 (t := 126) rfl (by first | exact x_rb b_x1000 rfl rfl | exact ⟨by omega, by omega⟩) (fun c1661 => ?_) (fun c1661 => by exfalso; omega)
                refine x_A k8_126 (fun _ => rfl) ?_
                refine x_callV k8_127 (y := 51) (n := 0) (w0 := 0) (w1 := 0) (as := []) (rest := []) (by decide +kernel) (q := 177) (nq := 7) (kq := 7) ⟨by decide, rfl⟩ rfl rfl rfl rfl (xe_mono (E_X6_advance_177 s1653 hG_s1653 (by omega)) ?_)
                rintro s1663 v ⟨hG_s1663, t_s1663, rfl, xp_z1662⟩
                have f_s1663 : FL [2501, 2502, 2560, 2688, 2816, 1219, 1220, 1221, 1222, 1223] s0 s1663 := f_s1653.tr t_s1663 (by decide +kernel)
                have q1664 : s1663 177 5 = x1000 := (t_s1663 177 5 (show 1222 ∉ [1219, 1220, 1221] from by decide +kernel)).trans q1654
                have q1665 : s1663 218 5 = x1001 := (t_s1663 218 5 (show 2502 ∉ [1219, 1220, 1221] from by decide +kernel)).trans q1655
                have q1666 : s1663 177 1 = x1002 := (t_s1663 177 1 (show 1218 ∉ [1219, 1220, 1221] from by decide +kernel)).trans q1656
                have q1667 : s1663 177 6 = z1580 := (t_s1663 177 6 (show 1223 ∉ [1219, 1220, 1221] from by decide +kernel)).trans q1659
                show xe none 8 130 [(0, .ref 218), (1, .ref 177), (2, vi x2)] [] s1663 0 0 _
                have tq1668 := xp_z1662
                rw [show s1653 178 = s0 178 from funext fun i => f_s1653 178 i (show 1280 ∉ [2501, 2502, 2560, 2688, 2816, 1219, 1220, 1221, 1222, 1223] from by decide +kernel), show s1653 177 1 = s0 177 1 from f_s1653 177 1 (show 1218 ∉ [2501, 2502, 2560, 2688, 2816, 1219, 1220, 1221, 1222, 1223] from by decide +kernel), show s1653 177 4 = te (s0 178) (s0 177 1) x1003 by omega] at tq1668
                have TK_s1663 : TKs s1663 := TK.s tq1668 (show s1663 178 = s0 178 from funext fun i => f_s1663 178 i (show 1280 ∉ [2501, 2502, 2560, 2688, 2816, 1219, 1220, 1221, 1222, 1223] from by decide +kernel)) (by omega)
                have nq : s1663 177 3 = nx (s0 178) (s0 177 1) x1003 := tq1668.2.2.1
                have nr : nx (s0 178) (s0 177 1) x1003 = sk (s0 178) (s0 177 1) (te (s0 178) (s0 177 1) x1003) := rfl
                obtain ⟨z1669, e_z1669⟩ : ∃ z, z = s1663 177 3 := ⟨_, rfl⟩
                have g_z1669 : (0 : Int) ≤ s1663 177 3 ∧ s1663 177 3 ≤ 160 := hG_s1663 177 3
                unfold TK at tq1668
                refine x_A k8_130 (fun _ => rfl) ?_
                exact x_zret k8_131 rfl ⟨by omega, by omega⟩ ⟨hG_s1663, f_s1663, 1, rfl, ⟨by decide, by decide⟩, Or.inl ⟨rfl, by omega, by rw [show s1663 218 5 = x1001 by omega, show s1663 177 3 = nx (s0 178) (s0 177 1) x1003 by omega]; exact (w_2 (by omega)).jn (by omega), ⟨by omega, by omega⟩, by omega, by omega⟩, TK_s1663⟩
            · skip
              refine x_A k8_81 (fun _ => rfl) ?_
              refine x_bipush k8_82 (by decide +kernel) ?_
              refine x_callV k8_84 (y := 10) (n := 1) (w0 := 0) (w1 := 1) (as := [vi 8]) (rest := []) (by decide +kernel) (q := 218) (nq := 7) (kq := 11) ⟨by decide, rfl⟩ rfl rfl rfl rfl (xe_mono (C_X0_joinBy_218 s hG 8 ⟨by decide, by decide⟩) ?_)
              rintro s1671 v ⟨hG_s1671, t_s1671, rfl⟩
              have f_s1671 : FL [2501, 2502, 2560, 2688, 2816, 1219, 1220, 1221, 1222, 1223] s0 s1671 := f.tr t_s1671 (by decide +kernel)
              have q1672 : s1671 177 5 = x1000 := (t_s1671 177 5 (show 1222 ∉ [2501, 2560, 2688, 2816] from by decide +kernel)).trans e_x1000.symm
              have q1673 : s1671 218 5 = x1001 := (t_s1671 218 5 (show 2502 ∉ [2501, 2560, 2688, 2816] from by decide +kernel)).trans e_x1001.symm
              have q1674 : s1671 177 1 = x1002 := (t_s1671 177 1 (show 1218 ∉ [2501, 2560, 2688, 2816] from by decide +kernel)).trans e_x1002.symm
              have q1675 : s1671 177 3 = x1003 := (t_s1671 177 3 (show 1220 ∉ [2501, 2560, 2688, 2816] from by decide +kernel)).trans e_x1003.symm
              have q1676 : s1671 177 4 = z1579 := (t_s1671 177 4 (show 1221 ∉ [2501, 2560, 2688, 2816] from by decide +kernel)).trans e_z1579.symm
              have q1677 : s1671 177 6 = z1580 := (t_s1671 177 6 (show 1223 ∉ [2501, 2560, 2688, 2816] from by decide +kernel)).trans e_z1580.symm
              have q1678 : s1671 177 2 = z1581 := (t_s1671 177 2 (show 1219 ∉ [2501, 2560, 2688, 2816] from by decide +kernel)).trans e_z1581.symm
              have TK_s1671 : TKs s1671 := TKs.fl i_TK t_s1671 (by decide +kernel)
              show xe none 8 87 [(0, .ref 218), (1, .ref 177), (2, vi x2)] [] s1671 0 0 _
              refine x_goto k8_87 (t := 117) rfl ?_
              refine x_A k8_117 (fun _ => rfl) ?_
              refine x_getI k8_118 (f := 5) rfl (q := 177) (n := 7) (kd := 7) ⟨by decide, rfl⟩ (by decide) rfl ?_
              refine x_rw (q1672) ?_
              refine x_if_eq k8_121 (t := 126) rfl (by first | exact x_rb b_x1000 rfl rfl | exact ⟨by omega, by omega⟩) (fun c1679 => ?_) (fun c1679 => by exfalso; omega)
              refine x_A k8_126 (fun _ => rfl) ?_
              refine x_callV k8_127 (y := 51) (n := 0) (w0 := 0) (w1 := 0) (as := []) (rest := []) (by decide +kernel) (q := 177) (nq := 7) (kq := 7) ⟨by decide, rfl⟩ rfl rfl rfl rfl (xe_mono (E_X6_advance_177 s1671 hG_s1671 (by omega)) ?_)
              rintro s1681 v ⟨hG_s1681, t_s1681, rfl, xp_z1680⟩
              have f_s1681 : FL [2501, 2502, 2560, 2688, 2816, 1219, 1220, 1221, 1222, 1223] s0 s1681 := f_s1671.tr t_s1681 (by decide +kernel)
              have q1682 : s1681 177 5 = x1000 := (t_s1681 177 5 (show 1222 ∉ [1219, 1220, 1221] from by decide +kernel)).trans q1672
              have q1683 : s1681 218 5 = x1001 := (t_s1681 218 5 (show 2502 ∉ [1219, 1220, 1221] from by decide +kernel)).trans q1673
              have q1684 : s1681 177 1 = x1002 := (t_s1681 177 1 (show 1218 ∉ [1219, 1220, 1221] from by decide +kernel)).trans q1674
              have q1685 : s1681 177 6 = z1580 := (t_s1681 177 6 (show 1223 ∉ [1219, 1220, 1221] from by decide +kernel)).trans q1677
              show xe none 8 130 [(0, .ref 218), (1, .ref 177), (2, vi x2)] [] s1681 0 0 _
              have tq1686 := xp_z1680
              rw [show s1671 178 = s0 178 from funext fun i => f_s1671 178 i (show 1280 ∉ [2501, 2502, 2560, 2688, 2816, 1219, 1220, 1221, 1222, 1223] from by decide +kernel), show s1671 177 1 = s0 177 1 from f_s1671 177 1 (show 1218 ∉ [2501, 2502, 2560, 2688, 2816, 1219, 1220, 1221, 1222, 1223] from by decide +kernel), show s1671 177 4 = te (s0 178) (s0 177 1) x1003 by omega] at tq1686
              have TK_s1681 : TKs s1681 := TK.s tq1686 (show s1681 178 = s0 178 from funext fun i => f_s1681 178 i (show 1280 ∉ [2501, 2502, 2560, 2688, 2816, 1219, 1220, 1221, 1222, 1223] from by decide +kernel)) (by omega)
              have nq : s1681 177 3 = nx (s0 178) (s0 177 1) x1003 := tq1686.2.2.1
              have nr : nx (s0 178) (s0 177 1) x1003 = sk (s0 178) (s0 177 1) (te (s0 178) (s0 177 1) x1003) := rfl
              obtain ⟨z1687, e_z1687⟩ : ∃ z, z = s1681 177 3 := ⟨_, rfl⟩
              have g_z1687 : (0 : Int) ≤ s1681 177 3 ∧ s1681 177 3 ≤ 160 := hG_s1681 177 3
              unfold TK at tq1686
              refine x_A k8_130 (fun _ => rfl) ?_
              exact x_zret k8_131 rfl ⟨by omega, by omega⟩ ⟨hG_s1681, f_s1681, 1, rfl, ⟨by decide, by decide⟩, Or.inl ⟨rfl, by omega, by rw [show s1681 218 5 = x1001 by omega, show s1681 177 3 = nx (s0 178) (s0 177 1) x1003 by omega]; exact (w_2 (by omega)).jn (by omega), ⟨by omega, by omega⟩, by omega, by omega⟩, TK_s1681⟩
          · skip
            refine x_A k8_70 (fun _ => rfl) ?_
            exact x_zret k8_71 rfl ⟨by omega, by omega⟩ ⟨hG, f, 0, rfl, ⟨by decide, by decide⟩, Or.inr ⟨rfl, Or.inl ⟨by omega, (w_2 (by omega)).fin (by omega) (by have kc := kd_cs (T := s0 178) (n := s0 177 1) (p := x1003); omega)⟩⟩, i_TK⟩
      · skip
        refine x_A k8_54 (fun _ => rfl) ?_
        obtain ⟨z1688, e_z1688⟩ : ∃ z, z = s 177 6 := ⟨_, rfl⟩
        have g_z1688 : (-2147483648) ≤ s 177 6 ∧ s 177 6 ≤ 2147483647 := hG 177 6
        exact x_zret k8_55 rfl ⟨by omega, by omega⟩ ⟨hG, f, 0, rfl, ⟨by decide, by decide⟩, Or.inr ⟨rfl, Or.inr ⟨by omega, by rw [show s 177 5 = x1000 by omega]; exact w_3 (by omega)⟩⟩, i_TK⟩
    · skip
      refine x_A k8_7 (fun _ => rfl) ?_
      refine x_getI k8_8 (f := 5) rfl (q := 177) (n := 7) (kd := 7) ⟨by decide, rfl⟩ (by decide) rfl ?_
      refine x_rw (e_x1000.symm) ?_
      refine x_if_ne k8_11 (t := 47) rfl (by first | exact x_rb b_x1000 rfl rfl | exact ⟨by omega, by omega⟩) (fun c1689 => ?_) (fun c1689 => ?_)
      · skip
        refine x_A k8_47 (fun _ => rfl) ?_
        refine x_getI k8_48 (f := 5) rfl (q := 177) (n := 7) (kd := 7) ⟨by decide, rfl⟩ (by decide) rfl ?_
        refine x_rw (e_x1000.symm) ?_
        refine x_if_eq k8_51 (t := 56) rfl (by first | exact x_rb b_x1000 rfl rfl | exact ⟨by omega, by omega⟩) (fun c1690 => by exfalso; omega) (fun c1690 => ?_)
        refine x_A k8_54 (fun _ => rfl) ?_
        obtain ⟨z1691, e_z1691⟩ : ∃ z, z = s 177 6 := ⟨_, rfl⟩
        have g_z1691 : (-2147483648) ≤ s 177 6 ∧ s 177 6 ≤ 2147483647 := hG 177 6
        exact x_zret k8_55 rfl ⟨by omega, by omega⟩ ⟨hG, f, 0, rfl, ⟨by decide, by decide⟩, Or.inr ⟨rfl, Or.inr ⟨by omega, by rw [show s 177 5 = x1000 by omega]; exact w_3 (by omega)⟩⟩, i_TK⟩
      · skip
        have tkL := i_TK
        unfold TKs TK at tkL
        rw [w_1, show s 177 1 = s0 177 1 by omega, show s 177 3 = x1003 by omega] at tkL
        have tlL := te_le (T := s0 178) (n := s0 177 1) (p := x1003)
        have slL := sk_le (T := s0 178) (n := s0 177 1) (p := te (s0 178) (s0 177 1) x1003)
        obtain ⟨z1692, e_z1692⟩ : ∃ z, z = s 177 4 := ⟨_, rfl⟩
        have g_z1692 : (0 : Int) ≤ s 177 4 ∧ s 177 4 ≤ 160 := hG 177 4
        obtain ⟨z1693, e_z1693⟩ : ∃ z, z = s 177 6 := ⟨_, rfl⟩
        have g_z1693 : (-2147483648) ≤ s 177 6 ∧ s 177 6 ≤ 2147483647 := hG 177 6
        refine x_A k8_14 (fun _ => rfl) ?_
        refine x_bipush k8_15 (by decide +kernel) ?_
        refine x_callV k8_17 (y := 54) (n := 1) (w0 := 0) (w1 := 1) (as := [vi 41]) (rest := []) (by decide +kernel) (q := 177) (nq := 7) (kq := 7) ⟨by decide, rfl⟩ rfl rfl rfl rfl (xe_mono (E_X6_isSign_177 s hG 41 ⟨by decide, by decide⟩ (by omega) i_TK) ?_)
        rintro s1695 v ⟨-, t_s1695, z1694, rfl, g_z1694, xp_z1694⟩
        rw [t_s1695.nil]
        try rw [t_s1695.nil] at xp_z1694
        show xe none 8 20 [(0, .ref 218), (1, .ref 177), (2, vi x2)] [vi z1694] s 0 0 _
        have sg := xp_z1694
        rw [w_1, show s 177 1 = s0 177 1 by omega, show s 177 3 = x1003 by omega] at sg
        refine x_if_eq k8_20 (t := 47) rfl (by first | exact x_rbe e_z1694 g_z1694 rfl rfl | exact x_rb g_z1694 rfl rfl | exact ⟨by omega, by omega⟩) (fun c1696 => ?_) (fun c1696 => ?_)
        · skip
          refine x_A k8_47 (fun _ => rfl) ?_
          refine x_getI k8_48 (f := 5) rfl (q := 177) (n := 7) (kd := 7) ⟨by decide, rfl⟩ (by decide) rfl ?_
          refine x_rw (e_x1000.symm) ?_
          refine x_if_eq k8_51 (t := 56) rfl (by first | exact x_rb b_x1000 rfl rfl | exact ⟨by omega, by omega⟩) (fun c1697 => ?_) (fun c1697 => by exfalso; omega)
          refine x_A k8_56 (fun _ => rfl) ?_
          refine x_getI k8_57 (f := 2) rfl (q := 177) (n := 7) (kd := 7) ⟨by decide, rfl⟩ (by decide) rfl ?_
          refine x_top (fun z1698 e_z1698 => ?_)
          have g_z1698 : (0 : Int) ≤ s 177 2 ∧ s 177 2 ≤ 3 := hG 177 2
          refine x_if_ne k8_60 (t := 72) rfl (by first | exact x_rbe e_z1698 g_z1698 rfl rfl | exact x_rb g_z1698 rfl rfl | exact ⟨by omega, by omega⟩) (fun c1699 => ?_) (fun c1699 => ?_)
          · skip
            refine x_A k8_72 (fun _ => rfl) ?_
            refine x_ldcR k8_73 (q := 2007) rfl ?_
            refine x_callV k8_75 (y := 53) (n := 1) (w0 := 0) (w1 := 1) (as := [.ref 2007]) (rest := []) (by decide +kernel) (q := 177) (nq := 7) (kq := 7) ⟨by decide, rfl⟩ rfl rfl rfl rfl (xe_mono (E_X6_isWord_177_2007 s hG i_TK) ?_)
            rintro s1701 v ⟨-, t_s1701, z1700, rfl, g_z1700, xp_z1700⟩
            rw [t_s1701.nil]
            try rw [t_s1701.nil] at xp_z1700
            show xe none 8 78 [(0, .ref 218), (1, .ref 177), (2, vi x2)] [vi z1700] s 0 0 _
            have sa := xp_z1700
            rw [w_1, show s 177 1 = s0 177 1 by omega, show s 177 3 = x1003 by omega] at sa
            refine x_if_eq k8_78 (t := 90) rfl (by first | exact x_rbe e_z1700 g_z1700 rfl rfl | exact x_rb g_z1700 rfl rfl | exact ⟨by omega, by omega⟩) (fun c1702 => ?_) (fun c1702 => ?_)
            · skip
              refine x_A k8_90 (fun _ => rfl) ?_
              refine x_ldcR k8_91 (q := 2008) rfl ?_
              refine x_callV k8_93 (y := 53) (n := 1) (w0 := 0) (w1 := 1) (as := [.ref 2008]) (rest := []) (by decide +kernel) (q := 177) (nq := 7) (kq := 7) ⟨by decide, rfl⟩ rfl rfl rfl rfl (xe_mono (E_X6_isWord_177_2008 s hG i_TK) ?_)
              rintro s1704 v ⟨-, t_s1704, z1703, rfl, g_z1703, xp_z1703⟩
              rw [t_s1704.nil]
              try rw [t_s1704.nil] at xp_z1703
              show xe none 8 96 [(0, .ref 218), (1, .ref 177), (2, vi x2)] [vi z1703] s 0 0 _
              have so := xp_z1703
              rw [w_1, show s 177 1 = s0 177 1 by omega, show s 177 3 = x1003 by omega] at so
              refine x_if_eq k8_96 (t := 108) rfl (by first | exact x_rbe e_z1703 g_z1703 rfl rfl | exact x_rb g_z1703 rfl rfl | exact ⟨by omega, by omega⟩) (fun c1705 => ?_) (fun c1705 => ?_)
              · skip
                refine x_A k8_108 (fun _ => rfl) ?_
                refine x_A k8_109 (fun _ => rfl) ?_
                refine x_A k8_110 (fun _ => rfl) ?_
                refine x_getI k8_111 (f := 3) rfl (q := 177) (n := 7) (kd := 7) ⟨by decide, rfl⟩ (by decide) rfl ?_
                refine x_rw (e_x1003.symm) ?_
                refine x_callV k8_114 (y := 52) (n := 2) (w0 := 0) (w1 := 2) (as := [vi 1, vi x1003]) (rest := []) (by decide +kernel) (q := 177) (nq := 7) (kq := 7) ⟨by decide, rfl⟩ rfl rfl rfl rfl (xe_mono (E_X6_fail_177 s hG 1 ⟨by decide, by decide⟩ x1003 (by first | exact x_rb b_x1003 rfl rfl | exact ⟨by omega, by omega⟩)) ?_)
                rintro s1707 v ⟨hG_s1707, t_s1707, rfl, xp_z1706⟩
                have f_s1707 : FL [2501, 2502, 2560, 2688, 2816, 1219, 1220, 1221, 1222, 1223] s0 s1707 := f.tr t_s1707 (by decide +kernel)
                have q1708 : s1707 218 5 = x1001 := (t_s1707 218 5 (show 2502 ∉ [1222, 1223] from by decide +kernel)).trans e_x1001.symm
                have q1709 : s1707 177 1 = x1002 := (t_s1707 177 1 (show 1218 ∉ [1222, 1223] from by decide +kernel)).trans e_x1002.symm
                have q1710 : s1707 177 3 = x1003 := (t_s1707 177 3 (show 1220 ∉ [1222, 1223] from by decide +kernel)).trans e_x1003.symm
                have q1711 : s1707 177 4 = z1692 := (t_s1707 177 4 (show 1221 ∉ [1222, 1223] from by decide +kernel)).trans e_z1692.symm
                have q1712 : s1707 177 2 = z1698 := (t_s1707 177 2 (show 1219 ∉ [1222, 1223] from by decide +kernel)).trans e_z1698.symm
                have TK_s1707 : TKs s1707 := TKs.fl i_TK t_s1707 (by decide +kernel)
                obtain ⟨z1713, e_z1713⟩ : ∃ z, z = s1707 177 5 := ⟨_, rfl⟩
                have g_z1713 : (0 : Int) ≤ s1707 177 5 ∧ s1707 177 5 ≤ 5 := hG_s1707 177 5
                obtain ⟨z1714, e_z1714⟩ : ∃ z, z = s1707 177 6 := ⟨_, rfl⟩
                have g_z1714 : (-2147483648) ≤ s1707 177 6 ∧ s1707 177 6 ≤ 2147483647 := hG_s1707 177 6
                show xe none 8 117 [(0, .ref 218), (1, .ref 177), (2, vi x2)] [] s1707 0 0 _
                refine x_A k8_117 (fun _ => rfl) ?_
                refine x_getI k8_118 (f := 5) rfl (q := 177) (n := 7) (kd := 7) ⟨by decide, rfl⟩ (by decide) rfl ?_
                refine x_rw (e_z1713.symm) ?_
                refine x_if_eq k8_121 (t := 126) rfl (by first | exact x_rbe e_z1713 g_z1713 rfl rfl | exact x_rb g_z1713 rfl rfl | exact ⟨by omega, by omega⟩) (fun c1715 => by exfalso; omega) (fun c1715 => ?_)
                refine x_A k8_124 (fun _ => rfl) ?_
                exact x_zret k8_125 rfl ⟨by omega, by omega⟩ ⟨hG_s1707, f_s1707, 0, rfl, ⟨by decide, by decide⟩, Or.inr ⟨rfl, Or.inr ⟨by omega, by rw [show s1707 177 5 = 1 by omega, show s1707 177 6 = x1003 by omega]; exact (w_2 (by omega)).bad ⟨by omega, by omega⟩ (by omega) (by have kc := kd_cs (T := s0 178) (n := s0 177 1) (p := x1003); omega)⟩⟩, TK_s1707⟩
              · skip
                refine x_A k8_99 (fun _ => rfl) ?_
                refine x_bipush k8_100 (by decide +kernel) ?_
                refine x_callV k8_102 (y := 10) (n := 1) (w0 := 0) (w1 := 1) (as := [vi 7]) (rest := []) (by decide +kernel) (q := 218) (nq := 7) (kq := 11) ⟨by decide, rfl⟩ rfl rfl rfl rfl (xe_mono (C_X0_joinBy_218 s hG 7 ⟨by decide, by decide⟩) ?_)
                rintro s1717 v ⟨hG_s1717, t_s1717, rfl⟩
                have f_s1717 : FL [2501, 2502, 2560, 2688, 2816, 1219, 1220, 1221, 1222, 1223] s0 s1717 := f.tr t_s1717 (by decide +kernel)
                have q1718 : s1717 177 5 = x1000 := (t_s1717 177 5 (show 1222 ∉ [2501, 2560, 2688, 2816] from by decide +kernel)).trans e_x1000.symm
                have q1719 : s1717 218 5 = x1001 := (t_s1717 218 5 (show 2502 ∉ [2501, 2560, 2688, 2816] from by decide +kernel)).trans e_x1001.symm
                have q1720 : s1717 177 1 = x1002 := (t_s1717 177 1 (show 1218 ∉ [2501, 2560, 2688, 2816] from by decide +kernel)).trans e_x1002.symm
                have q1721 : s1717 177 3 = x1003 := (t_s1717 177 3 (show 1220 ∉ [2501, 2560, 2688, 2816] from by decide +kernel)).trans e_x1003.symm
                have q1722 : s1717 177 4 = z1692 := (t_s1717 177 4 (show 1221 ∉ [2501, 2560, 2688, 2816] from by decide +kernel)).trans e_z1692.symm
                have q1723 : s1717 177 6 = z1693 := (t_s1717 177 6 (show 1223 ∉ [2501, 2560, 2688, 2816] from by decide +kernel)).trans e_z1693.symm
                have q1724 : s1717 177 2 = z1698 := (t_s1717 177 2 (show 1219 ∉ [2501, 2560, 2688, 2816] from by decide +kernel)).trans e_z1698.symm
                have TK_s1717 : TKs s1717 := TKs.fl i_TK t_s1717 (by decide +kernel)
                show xe none 8 105 [(0, .ref 218), (1, .ref 177), (2, vi x2)] [] s1717 0 0 _
                refine x_goto k8_105 (t := 117) rfl ?_
                refine x_A k8_117 (fun _ => rfl) ?_
                refine x_getI k8_118 (f := 5) rfl (q := 177) (n := 7) (kd := 7) ⟨by decide, rfl⟩ (by decide) rfl ?_
                refine x_rw (q1718) ?_
                refine x_if_eq k8_121 (t := 126) rfl (by first | exact x_rb b_x1000 rfl rfl | exact ⟨by omega, by omega⟩) (fun c1725 => ?_) (fun c1725 => by exfalso; omega)
                refine x_A k8_126 (fun _ => rfl) ?_
                refine x_callV k8_127 (y := 51) (n := 0) (w0 := 0) (w1 := 0) (as := []) (rest := []) (by decide +kernel) (q := 177) (nq := 7) (kq := 7) ⟨by decide, rfl⟩ rfl rfl rfl rfl (xe_mono (E_X6_advance_177 s1717 hG_s1717 (by omega)) ?_)
                rintro s1727 v ⟨hG_s1727, t_s1727, rfl, xp_z1726⟩
                have f_s1727 : FL [2501, 2502, 2560, 2688, 2816, 1219, 1220, 1221, 1222, 1223] s0 s1727 := f_s1717.tr t_s1727 (by decide +kernel)
                have q1728 : s1727 177 5 = x1000 := (t_s1727 177 5 (show 1222 ∉ [1219, 1220, 1221] from by decide +kernel)).trans q1718
                have q1729 : s1727 218 5 = x1001 := (t_s1727 218 5 (show 2502 ∉ [1219, 1220, 1221] from by decide +kernel)).trans q1719
                have q1730 : s1727 177 1 = x1002 := (t_s1727 177 1 (show 1218 ∉ [1219, 1220, 1221] from by decide +kernel)).trans q1720
                have q1731 : s1727 177 6 = z1693 := (t_s1727 177 6 (show 1223 ∉ [1219, 1220, 1221] from by decide +kernel)).trans q1723
                show xe none 8 130 [(0, .ref 218), (1, .ref 177), (2, vi x2)] [] s1727 0 0 _
                have tq1732 := xp_z1726
                rw [show s1717 178 = s0 178 from funext fun i => f_s1717 178 i (show 1280 ∉ [2501, 2502, 2560, 2688, 2816, 1219, 1220, 1221, 1222, 1223] from by decide +kernel), show s1717 177 1 = s0 177 1 from f_s1717 177 1 (show 1218 ∉ [2501, 2502, 2560, 2688, 2816, 1219, 1220, 1221, 1222, 1223] from by decide +kernel), show s1717 177 4 = te (s0 178) (s0 177 1) x1003 by omega] at tq1732
                have TK_s1727 : TKs s1727 := TK.s tq1732 (show s1727 178 = s0 178 from funext fun i => f_s1727 178 i (show 1280 ∉ [2501, 2502, 2560, 2688, 2816, 1219, 1220, 1221, 1222, 1223] from by decide +kernel)) (by omega)
                have nq : s1727 177 3 = nx (s0 178) (s0 177 1) x1003 := tq1732.2.2.1
                have nr : nx (s0 178) (s0 177 1) x1003 = sk (s0 178) (s0 177 1) (te (s0 178) (s0 177 1) x1003) := rfl
                obtain ⟨z1733, e_z1733⟩ : ∃ z, z = s1727 177 3 := ⟨_, rfl⟩
                have g_z1733 : (0 : Int) ≤ s1727 177 3 ∧ s1727 177 3 ≤ 160 := hG_s1727 177 3
                unfold TK at tq1732
                refine x_A k8_130 (fun _ => rfl) ?_
                exact x_zret k8_131 rfl ⟨by omega, by omega⟩ ⟨hG_s1727, f_s1727, 1, rfl, ⟨by decide, by decide⟩, Or.inl ⟨rfl, by omega, by rw [show s1727 218 5 = x1001 by omega, show s1727 177 3 = nx (s0 178) (s0 177 1) x1003 by omega]; exact (w_2 (by omega)).jn (by omega), ⟨by omega, by omega⟩, by omega, by omega⟩, TK_s1727⟩
            · skip
              refine x_A k8_81 (fun _ => rfl) ?_
              refine x_bipush k8_82 (by decide +kernel) ?_
              refine x_callV k8_84 (y := 10) (n := 1) (w0 := 0) (w1 := 1) (as := [vi 8]) (rest := []) (by decide +kernel) (q := 218) (nq := 7) (kq := 11) ⟨by decide, rfl⟩ rfl rfl rfl rfl (xe_mono (C_X0_joinBy_218 s hG 8 ⟨by decide, by decide⟩) ?_)
              rintro s1735 v ⟨hG_s1735, t_s1735, rfl⟩
              have f_s1735 : FL [2501, 2502, 2560, 2688, 2816, 1219, 1220, 1221, 1222, 1223] s0 s1735 := f.tr t_s1735 (by decide +kernel)
              have q1736 : s1735 177 5 = x1000 := (t_s1735 177 5 (show 1222 ∉ [2501, 2560, 2688, 2816] from by decide +kernel)).trans e_x1000.symm
              have q1737 : s1735 218 5 = x1001 := (t_s1735 218 5 (show 2502 ∉ [2501, 2560, 2688, 2816] from by decide +kernel)).trans e_x1001.symm
              have q1738 : s1735 177 1 = x1002 := (t_s1735 177 1 (show 1218 ∉ [2501, 2560, 2688, 2816] from by decide +kernel)).trans e_x1002.symm
              have q1739 : s1735 177 3 = x1003 := (t_s1735 177 3 (show 1220 ∉ [2501, 2560, 2688, 2816] from by decide +kernel)).trans e_x1003.symm
              have q1740 : s1735 177 4 = z1692 := (t_s1735 177 4 (show 1221 ∉ [2501, 2560, 2688, 2816] from by decide +kernel)).trans e_z1692.symm
              have q1741 : s1735 177 6 = z1693 := (t_s1735 177 6 (show 1223 ∉ [2501, 2560, 2688, 2816] from by decide +kernel)).trans e_z1693.symm
              have q1742 : s1735 177 2 = z1698 := (t_s1735 177 2 (show 1219 ∉ [2501, 2560, 2688, 2816] from by decide +kernel)).trans e_z1698.symm
              have TK_s1735 : TKs s1735 := TKs.fl i_TK t_s1735 (by decide +kernel)
              show xe none 8 87 [(0, .ref 218), (1, .ref 177), (2, vi x2)] [] s1735 0 0 _
              refine x_goto k8_87 (t := 117) rfl ?_
              refine x_A k8_117 (fun _ => rfl) ?_
              refine x_getI k8_118 (f := 5) rfl (q := 177) (n := 7) (kd := 7) ⟨by decide, rfl⟩ (by decide) rfl ?_
              refine x_rw (q1736) ?_
              refine x_if_eq k8_121 (t := 126) rfl (by first | exact x_rb b_x1000 rfl rfl | exact ⟨by omega, by omega⟩) (fun c1743 => ?_) (fun c1743 => by exfalso; omega)
              refine x_A k8_126 (fun _ => rfl) ?_
              refine x_callV k8_127 (y := 51) (n := 0) (w0 := 0) (w1 := 0) (as := []) (rest := []) (by decide +kernel) (q := 177) (nq := 7) (kq := 7) ⟨by decide, rfl⟩ rfl rfl rfl rfl (xe_mono (E_X6_advance_177 s1735 hG_s1735 (by omega)) ?_)
              rintro s1745 v ⟨hG_s1745, t_s1745, rfl, xp_z1744⟩
              have f_s1745 : FL [2501, 2502, 2560, 2688, 2816, 1219, 1220, 1221, 1222, 1223] s0 s1745 := f_s1735.tr t_s1745 (by decide +kernel)
              have q1746 : s1745 177 5 = x1000 := (t_s1745 177 5 (show 1222 ∉ [1219, 1220, 1221] from by decide +kernel)).trans q1736
              have q1747 : s1745 218 5 = x1001 := (t_s1745 218 5 (show 2502 ∉ [1219, 1220, 1221] from by decide +kernel)).trans q1737
              have q1748 : s1745 177 1 = x1002 := (t_s1745 177 1 (show 1218 ∉ [1219, 1220, 1221] from by decide +kernel)).trans q1738
              have q1749 : s1745 177 6 = z1693 := (t_s1745 177 6 (show 1223 ∉ [1219, 1220, 1221] from by decide +kernel)).trans q1741
              show xe none 8 130 [(0, .ref 218), (1, .ref 177), (2, vi x2)] [] s1745 0 0 _
              have tq1750 := xp_z1744
              rw [show s1735 178 = s0 178 from funext fun i => f_s1735 178 i (show 1280 ∉ [2501, 2502, 2560, 2688, 2816, 1219, 1220, 1221, 1222, 1223] from by decide +kernel), show s1735 177 1 = s0 177 1 from f_s1735 177 1 (show 1218 ∉ [2501, 2502, 2560, 2688, 2816, 1219, 1220, 1221, 1222, 1223] from by decide +kernel), show s1735 177 4 = te (s0 178) (s0 177 1) x1003 by omega] at tq1750
              have TK_s1745 : TKs s1745 := TK.s tq1750 (show s1745 178 = s0 178 from funext fun i => f_s1745 178 i (show 1280 ∉ [2501, 2502, 2560, 2688, 2816, 1219, 1220, 1221, 1222, 1223] from by decide +kernel)) (by omega)
              have nq : s1745 177 3 = nx (s0 178) (s0 177 1) x1003 := tq1750.2.2.1
              have nr : nx (s0 178) (s0 177 1) x1003 = sk (s0 178) (s0 177 1) (te (s0 178) (s0 177 1) x1003) := rfl
              obtain ⟨z1751, e_z1751⟩ : ∃ z, z = s1745 177 3 := ⟨_, rfl⟩
              have g_z1751 : (0 : Int) ≤ s1745 177 3 ∧ s1745 177 3 ≤ 160 := hG_s1745 177 3
              unfold TK at tq1750
              refine x_A k8_130 (fun _ => rfl) ?_
              exact x_zret k8_131 rfl ⟨by omega, by omega⟩ ⟨hG_s1745, f_s1745, 1, rfl, ⟨by decide, by decide⟩, Or.inl ⟨rfl, by omega, by rw [show s1745 218 5 = x1001 by omega, show s1745 177 3 = nx (s0 178) (s0 177 1) x1003 by omega]; exact (w_2 (by omega)).jn (by omega), ⟨by omega, by omega⟩, by omega, by omega⟩, TK_s1745⟩
          · skip
            refine x_A k8_63 (fun _ => rfl) ?_
            refine x_getI k8_64 (f := 5) rfl (q := 218) (n := 7) (kd := 11) ⟨by decide, rfl⟩ (by decide) rfl ?_
            refine x_rw (e_x1001.symm) ?_
            refine x_if_ne k8_67 (t := 72) rfl (by first | exact x_rb b_x1001 rfl rfl | exact ⟨by omega, by omega⟩) (fun c1752 => ?_) (fun c1752 => ?_)
            · skip
              refine x_A k8_72 (fun _ => rfl) ?_
              refine x_ldcR k8_73 (q := 2007) rfl ?_
              refine x_callV k8_75 (y := 53) (n := 1) (w0 := 0) (w1 := 1) (as := [.ref 2007]) (rest := []) (by decide +kernel) (q := 177) (nq := 7) (kq := 7) ⟨by decide, rfl⟩ rfl rfl rfl rfl (xe_mono (E_X6_isWord_177_2007 s hG i_TK) ?_)
              rintro s1754 v ⟨-, t_s1754, z1753, rfl, g_z1753, xp_z1753⟩
              rw [t_s1754.nil]
              try rw [t_s1754.nil] at xp_z1753
              show xe none 8 78 [(0, .ref 218), (1, .ref 177), (2, vi x2)] [vi z1753] s 0 0 _
              have sa := xp_z1753
              rw [w_1, show s 177 1 = s0 177 1 by omega, show s 177 3 = x1003 by omega] at sa
              refine x_if_eq k8_78 (t := 90) rfl (by first | exact x_rbe e_z1753 g_z1753 rfl rfl | exact x_rb g_z1753 rfl rfl | exact ⟨by omega, by omega⟩) (fun c1755 => ?_) (fun c1755 => ?_)
              · skip
                refine x_A k8_90 (fun _ => rfl) ?_
                refine x_ldcR k8_91 (q := 2008) rfl ?_
                refine x_callV k8_93 (y := 53) (n := 1) (w0 := 0) (w1 := 1) (as := [.ref 2008]) (rest := []) (by decide +kernel) (q := 177) (nq := 7) (kq := 7) ⟨by decide, rfl⟩ rfl rfl rfl rfl (xe_mono (E_X6_isWord_177_2008 s hG i_TK) ?_)
                rintro s1757 v ⟨-, t_s1757, z1756, rfl, g_z1756, xp_z1756⟩
                rw [t_s1757.nil]
                try rw [t_s1757.nil] at xp_z1756
                show xe none 8 96 [(0, .ref 218), (1, .ref 177), (2, vi x2)] [vi z1756] s 0 0 _
                have so := xp_z1756
                rw [w_1, show s 177 1 = s0 177 1 by omega, show s 177 3 = x1003 by omega] at so
                refine x_if_eq k8_96 (t := 108) rfl (by first | exact x_rbe e_z1756 g_z1756 rfl rfl | exact x_rb g_z1756 rfl rfl | exact ⟨by omega, by omega⟩) (fun c1758 => ?_) (fun c1758 => ?_)
                · skip
                  refine x_A k8_108 (fun _ => rfl) ?_
                  refine x_A k8_109 (fun _ => rfl) ?_
                  refine x_A k8_110 (fun _ => rfl) ?_
                  refine x_getI k8_111 (f := 3) rfl (q := 177) (n := 7) (kd := 7) ⟨by decide, rfl⟩ (by decide) rfl ?_
                  refine x_rw (e_x1003.symm) ?_
                  refine x_callV k8_114 (y := 52) (n := 2) (w0 := 0) (w1 := 2) (as := [vi 1, vi x1003]) (rest := []) (by decide +kernel) (q := 177) (nq := 7) (kq := 7) ⟨by decide, rfl⟩ rfl rfl rfl rfl (xe_mono (E_X6_fail_177 s hG 1 ⟨by decide, by decide⟩ x1003 (by first | exact x_rb b_x1003 rfl rfl | exact ⟨by omega, by omega⟩)) ?_)
                  rintro s1760 v ⟨hG_s1760, t_s1760, rfl, xp_z1759⟩
                  have f_s1760 : FL [2501, 2502, 2560, 2688, 2816, 1219, 1220, 1221, 1222, 1223] s0 s1760 := f.tr t_s1760 (by decide +kernel)
                  have q1761 : s1760 218 5 = x1001 := (t_s1760 218 5 (show 2502 ∉ [1222, 1223] from by decide +kernel)).trans e_x1001.symm
                  have q1762 : s1760 177 1 = x1002 := (t_s1760 177 1 (show 1218 ∉ [1222, 1223] from by decide +kernel)).trans e_x1002.symm
                  have q1763 : s1760 177 3 = x1003 := (t_s1760 177 3 (show 1220 ∉ [1222, 1223] from by decide +kernel)).trans e_x1003.symm
                  have q1764 : s1760 177 4 = z1692 := (t_s1760 177 4 (show 1221 ∉ [1222, 1223] from by decide +kernel)).trans e_z1692.symm
                  have q1765 : s1760 177 2 = z1698 := (t_s1760 177 2 (show 1219 ∉ [1222, 1223] from by decide +kernel)).trans e_z1698.symm
                  have TK_s1760 : TKs s1760 := TKs.fl i_TK t_s1760 (by decide +kernel)
                  obtain ⟨z1766, e_z1766⟩ : ∃ z, z = s1760 177 5 := ⟨_, rfl⟩
                  have g_z1766 : (0 : Int) ≤ s1760 177 5 ∧ s1760 177 5 ≤ 5 := hG_s1760 177 5
                  obtain ⟨z1767, e_z1767⟩ : ∃ z, z = s1760 177 6 := ⟨_, rfl⟩
                  have g_z1767 : (-2147483648) ≤ s1760 177 6 ∧ s1760 177 6 ≤ 2147483647 := hG_s1760 177 6
                  show xe none 8 117 [(0, .ref 218), (1, .ref 177), (2, vi x2)] [] s1760 0 0 _
                  refine x_A k8_117 (fun _ => rfl) ?_
                  refine x_getI k8_118 (f := 5) rfl (q := 177) (n := 7) (kd := 7) ⟨by decide, rfl⟩ (by decide) rfl ?_
                  refine x_rw (e_z1766.symm) ?_
                  refine x_if_eq k8_121 (t := 126) rfl (by first | exact x_rbe e_z1766 g_z1766 rfl rfl | exact x_rb g_z1766 rfl rfl | exact ⟨by omega, by omega⟩) (fun c1768 => by exfalso; omega) (fun c1768 => ?_)
                  refine x_A k8_124 (fun _ => rfl) ?_
                  exact x_zret k8_125 rfl ⟨by omega, by omega⟩ ⟨hG_s1760, f_s1760, 0, rfl, ⟨by decide, by decide⟩, Or.inr ⟨rfl, Or.inr ⟨by omega, by rw [show s1760 177 5 = 1 by omega, show s1760 177 6 = x1003 by omega]; exact (w_2 (by omega)).bad ⟨by omega, by omega⟩ (by omega) (by have kc := kd_cs (T := s0 178) (n := s0 177 1) (p := x1003); omega)⟩⟩, TK_s1760⟩
                · skip
                  refine x_A k8_99 (fun _ => rfl) ?_
                  refine x_bipush k8_100 (by decide +kernel) ?_
                  refine x_callV k8_102 (y := 10) (n := 1) (w0 := 0) (w1 := 1) (as := [vi 7]) (rest := []) (by decide +kernel) (q := 218) (nq := 7) (kq := 11) ⟨by decide, rfl⟩ rfl rfl rfl rfl (xe_mono (C_X0_joinBy_218 s hG 7 ⟨by decide, by decide⟩) ?_)
                  rintro s1770 v ⟨hG_s1770, t_s1770, rfl⟩
                  have f_s1770 : FL [2501, 2502, 2560, 2688, 2816, 1219, 1220, 1221, 1222, 1223] s0 s1770 := f.tr t_s1770 (by decide +kernel)
                  have q1771 : s1770 177 5 = x1000 := (t_s1770 177 5 (show 1222 ∉ [2501, 2560, 2688, 2816] from by decide +kernel)).trans e_x1000.symm
                  have q1772 : s1770 218 5 = x1001 := (t_s1770 218 5 (show 2502 ∉ [2501, 2560, 2688, 2816] from by decide +kernel)).trans e_x1001.symm
                  have q1773 : s1770 177 1 = x1002 := (t_s1770 177 1 (show 1218 ∉ [2501, 2560, 2688, 2816] from by decide +kernel)).trans e_x1002.symm
                  have q1774 : s1770 177 3 = x1003 := (t_s1770 177 3 (show 1220 ∉ [2501, 2560, 2688, 2816] from by decide +kernel)).trans e_x1003.symm
                  have q1775 : s1770 177 4 = z1692 := (t_s1770 177 4 (show 1221 ∉ [2501, 2560, 2688, 2816] from by decide +kernel)).trans e_z1692.symm
                  have q1776 : s1770 177 6 = z1693 := (t_s1770 177 6 (show 1223 ∉ [2501, 2560, 2688, 2816] from by decide +kernel)).trans e_z1693.symm
                  have q1777 : s1770 177 2 = z1698 := (t_s1770 177 2 (show 1219 ∉ [2501, 2560, 2688, 2816] from by decide +kernel)).trans e_z1698.symm
                  have TK_s1770 : TKs s1770 := TKs.fl i_TK t_s1770 (by decide +kernel)
                  show xe none 8 105 [(0, .ref 218), (1, .ref 177), (2, vi x2)] [] s1770 0 0 _
                  refine x_goto k8_105 (t := 117) rfl ?_
                  refine x_A k8_117 (fun _ => rfl) ?_
                  refine x_getI k8_118 (f := 5) rfl (q := 177) (n := 7) (kd := 7) ⟨by decide, rfl⟩ (by decide) rfl ?_
                  refine x_rw (q1771) ?_
                  refine x_if_eq k8_121 (t := 126) rfl (by first | exact x_rb b_x1000 rfl rfl | exact ⟨by omega, by omega⟩) (fun c1778 => ?_) (fun c1778 => by exfalso; omega)
                  refine x_A k8_126 (fun _ => rfl) ?_
                  refine x_callV k8_127 (y := 51) (n := 0) (w0 := 0) (w1 := 0) (as := []) (rest := []) (by decide +kernel) (q := 177) (nq := 7) (kq := 7) ⟨by decide, rfl⟩ rfl rfl rfl rfl (xe_mono (E_X6_advance_177 s1770 hG_s1770 (by omega)) ?_)
                  rintro s1780 v ⟨hG_s1780, t_s1780, rfl, xp_z1779⟩
                  have f_s1780 : FL [2501, 2502, 2560, 2688, 2816, 1219, 1220, 1221, 1222, 1223] s0 s1780 := f_s1770.tr t_s1780 (by decide +kernel)
                  have q1781 : s1780 177 5 = x1000 := (t_s1780 177 5 (show 1222 ∉ [1219, 1220, 1221] from by decide +kernel)).trans q1771
                  have q1782 : s1780 218 5 = x1001 := (t_s1780 218 5 (show 2502 ∉ [1219, 1220, 1221] from by decide +kernel)).trans q1772
                  have q1783 : s1780 177 1 = x1002 := (t_s1780 177 1 (show 1218 ∉ [1219, 1220, 1221] from by decide +kernel)).trans q1773
                  have q1784 : s1780 177 6 = z1693 := (t_s1780 177 6 (show 1223 ∉ [1219, 1220, 1221] from by decide +kernel)).trans q1776
                  show xe none 8 130 [(0, .ref 218), (1, .ref 177), (2, vi x2)] [] s1780 0 0 _
                  have tq1785 := xp_z1779
                  rw [show s1770 178 = s0 178 from funext fun i => f_s1770 178 i (show 1280 ∉ [2501, 2502, 2560, 2688, 2816, 1219, 1220, 1221, 1222, 1223] from by decide +kernel), show s1770 177 1 = s0 177 1 from f_s1770 177 1 (show 1218 ∉ [2501, 2502, 2560, 2688, 2816, 1219, 1220, 1221, 1222, 1223] from by decide +kernel), show s1770 177 4 = te (s0 178) (s0 177 1) x1003 by omega] at tq1785
                  have TK_s1780 : TKs s1780 := TK.s tq1785 (show s1780 178 = s0 178 from funext fun i => f_s1780 178 i (show 1280 ∉ [2501, 2502, 2560, 2688, 2816, 1219, 1220, 1221, 1222, 1223] from by decide +kernel)) (by omega)
                  have nq : s1780 177 3 = nx (s0 178) (s0 177 1) x1003 := tq1785.2.2.1
                  have nr : nx (s0 178) (s0 177 1) x1003 = sk (s0 178) (s0 177 1) (te (s0 178) (s0 177 1) x1003) := rfl
                  obtain ⟨z1786, e_z1786⟩ : ∃ z, z = s1780 177 3 := ⟨_, rfl⟩
                  have g_z1786 : (0 : Int) ≤ s1780 177 3 ∧ s1780 177 3 ≤ 160 := hG_s1780 177 3
                  unfold TK at tq1785
                  refine x_A k8_130 (fun _ => rfl) ?_
                  exact x_zret k8_131 rfl ⟨by omega, by omega⟩ ⟨hG_s1780, f_s1780, 1, rfl, ⟨by decide, by decide⟩, Or.inl ⟨rfl, by omega, by rw [show s1780 218 5 = x1001 by omega, show s1780 177 3 = nx (s0 178) (s0 177 1) x1003 by omega]; exact (w_2 (by omega)).jn (by omega), ⟨by omega, by omega⟩, by omega, by omega⟩, TK_s1780⟩
              · skip
                refine x_A k8_81 (fun _ => rfl) ?_
                refine x_bipush k8_82 (by decide +kernel) ?_
                refine x_callV k8_84 (y := 10) (n := 1) (w0 := 0) (w1 := 1) (as := [vi 8]) (rest := []) (by decide +kernel) (q := 218) (nq := 7) (kq := 11) ⟨by decide, rfl⟩ rfl rfl rfl rfl (xe_mono (C_X0_joinBy_218 s hG 8 ⟨by decide, by decide⟩) ?_)
                rintro s1788 v ⟨hG_s1788, t_s1788, rfl⟩
                have f_s1788 : FL [2501, 2502, 2560, 2688, 2816, 1219, 1220, 1221, 1222, 1223] s0 s1788 := f.tr t_s1788 (by decide +kernel)
                have q1789 : s1788 177 5 = x1000 := (t_s1788 177 5 (show 1222 ∉ [2501, 2560, 2688, 2816] from by decide +kernel)).trans e_x1000.symm
                have q1790 : s1788 218 5 = x1001 := (t_s1788 218 5 (show 2502 ∉ [2501, 2560, 2688, 2816] from by decide +kernel)).trans e_x1001.symm
                have q1791 : s1788 177 1 = x1002 := (t_s1788 177 1 (show 1218 ∉ [2501, 2560, 2688, 2816] from by decide +kernel)).trans e_x1002.symm
                have q1792 : s1788 177 3 = x1003 := (t_s1788 177 3 (show 1220 ∉ [2501, 2560, 2688, 2816] from by decide +kernel)).trans e_x1003.symm
                have q1793 : s1788 177 4 = z1692 := (t_s1788 177 4 (show 1221 ∉ [2501, 2560, 2688, 2816] from by decide +kernel)).trans e_z1692.symm
                have q1794 : s1788 177 6 = z1693 := (t_s1788 177 6 (show 1223 ∉ [2501, 2560, 2688, 2816] from by decide +kernel)).trans e_z1693.symm
                have q1795 : s1788 177 2 = z1698 := (t_s1788 177 2 (show 1219 ∉ [2501, 2560, 2688, 2816] from by decide +kernel)).trans e_z1698.symm
                have TK_s1788 : TKs s1788 := TKs.fl i_TK t_s1788 (by decide +kernel)
                show xe none 8 87 [(0, .ref 218), (1, .ref 177), (2, vi x2)] [] s1788 0 0 _
                refine x_goto k8_87 (t := 117) rfl ?_
                refine x_A k8_117 (fun _ => rfl) ?_
                refine x_getI k8_118 (f := 5) rfl (q := 177) (n := 7) (kd := 7) ⟨by decide, rfl⟩ (by decide) rfl ?_
                refine x_rw (q1789) ?_
                refine x_if_eq k8_121 (t := 126) rfl (by first | exact x_rb b_x1000 rfl rfl | exact ⟨by omega, by omega⟩) (fun c1796 => ?_) (fun c1796 => by exfalso; omega)
                refine x_A k8_126 (fun _ => rfl) ?_
                refine x_callV k8_127 (y := 51) (n := 0) (w0 := 0) (w1 := 0) (as := []) (rest := []) (by decide +kernel) (q := 177) (nq := 7) (kq := 7) ⟨by decide, rfl⟩ rfl rfl rfl rfl (xe_mono (E_X6_advance_177 s1788 hG_s1788 (by omega)) ?_)
                rintro s1798 v ⟨hG_s1798, t_s1798, rfl, xp_z1797⟩
                have f_s1798 : FL [2501, 2502, 2560, 2688, 2816, 1219, 1220, 1221, 1222, 1223] s0 s1798 := f_s1788.tr t_s1798 (by decide +kernel)
                have q1799 : s1798 177 5 = x1000 := (t_s1798 177 5 (show 1222 ∉ [1219, 1220, 1221] from by decide +kernel)).trans q1789
                have q1800 : s1798 218 5 = x1001 := (t_s1798 218 5 (show 2502 ∉ [1219, 1220, 1221] from by decide +kernel)).trans q1790
                have q1801 : s1798 177 1 = x1002 := (t_s1798 177 1 (show 1218 ∉ [1219, 1220, 1221] from by decide +kernel)).trans q1791
                have q1802 : s1798 177 6 = z1693 := (t_s1798 177 6 (show 1223 ∉ [1219, 1220, 1221] from by decide +kernel)).trans q1794
                show xe none 8 130 [(0, .ref 218), (1, .ref 177), (2, vi x2)] [] s1798 0 0 _
                have tq1803 := xp_z1797
                rw [show s1788 178 = s0 178 from funext fun i => f_s1788 178 i (show 1280 ∉ [2501, 2502, 2560, 2688, 2816, 1219, 1220, 1221, 1222, 1223] from by decide +kernel), show s1788 177 1 = s0 177 1 from f_s1788 177 1 (show 1218 ∉ [2501, 2502, 2560, 2688, 2816, 1219, 1220, 1221, 1222, 1223] from by decide +kernel), show s1788 177 4 = te (s0 178) (s0 177 1) x1003 by omega] at tq1803
                have TK_s1798 : TKs s1798 := TK.s tq1803 (show s1798 178 = s0 178 from funext fun i => f_s1798 178 i (show 1280 ∉ [2501, 2502, 2560, 2688, 2816, 1219, 1220, 1221, 1222, 1223] from by decide +kernel)) (by omega)
                have nq : s1798 177 3 = nx (s0 178) (s0 177 1) x1003 := tq1803.2.2.1
                have nr : nx (s0 178) (s0 177 1) x1003 = sk (s0 178) (s0 177 1) (te (s0 178) (s0 177 1) x1003) := rfl
                obtain ⟨z1804, e_z1804⟩ : ∃ z, z = s1798 177 3 := ⟨_, rfl⟩
                have g_z1804 : (0 : Int) ≤ s1798 177 3 ∧ s1798 177 3 ≤ 160 := hG_s1798 177 3
                unfold TK at tq1803
                refine x_A k8_130 (fun _ => rfl) ?_
                exact x_zret k8_131 rfl ⟨by omega, by omega⟩ ⟨hG_s1798, f_s1798, 1, rfl, ⟨by decide, by decide⟩, Or.inl ⟨rfl, by omega, by rw [show s1798 218 5 = x1001 by omega, show s1798 177 3 = nx (s0 178) (s0 177 1) x1003 by omega]; exact (w_2 (by omega)).jn (by omega), ⟨by omega, by omega⟩, by omega, by omega⟩, TK_s1798⟩
            · skip
              refine x_A k8_70 (fun _ => rfl) ?_
              exact x_zret k8_71 rfl ⟨by omega, by omega⟩ ⟨hG, f, 0, rfl, ⟨by decide, by decide⟩, Or.inr ⟨rfl, Or.inl ⟨by omega, (w_2 (by omega)).fin (by omega) (by have kc := kd_cs (T := s0 178) (n := s0 177 1) (p := x1003); omega)⟩⟩, i_TK⟩
        · skip
          refine x_A k8_23 (fun _ => rfl) ?_
          refine x_getI k8_24 (f := 5) rfl (q := 218) (n := 7) (kd := 11) ⟨by decide, rfl⟩ (by decide) rfl ?_
          refine x_rw (e_x1001.symm) ?_
          refine x_if_ne k8_27 (t := 33) rfl (by first | exact x_rb b_x1001 rfl rfl | exact ⟨by omega, by omega⟩) (fun c1805 => ?_) (fun c1805 => ?_)
          · skip
            refine x_A k8_33 (fun _ => rfl) ?_
            refine x_callV k8_34 (y := 9) (n := 0) (w0 := 0) (w1 := 0) (as := []) (rest := []) (by decide +kernel) (q := 218) (nq := 7) (kq := 11) ⟨by decide, rfl⟩ rfl rfl rfl rfl (xe_mono (E_X0_closeBracket_218 s hG ⟨by omega, by omega⟩) ?_)
            rintro s1807 v ⟨hG_s1807, t_s1807, rfl, xp_z1806⟩
            have f_s1807 : FL [2501, 2502, 2560, 2688, 2816, 1219, 1220, 1221, 1222, 1223] s0 s1807 := f.tr t_s1807 (by decide +kernel)
            have q1808 : s1807 177 5 = x1000 := (t_s1807 177 5 (show 1222 ∉ [2501, 2502, 2560, 2688] from by decide +kernel)).trans e_x1000.symm
            have q1809 : s1807 177 1 = x1002 := (t_s1807 177 1 (show 1218 ∉ [2501, 2502, 2560, 2688] from by decide +kernel)).trans e_x1002.symm
            have q1810 : s1807 177 3 = x1003 := (t_s1807 177 3 (show 1220 ∉ [2501, 2502, 2560, 2688] from by decide +kernel)).trans e_x1003.symm
            have q1811 : s1807 177 4 = z1692 := (t_s1807 177 4 (show 1221 ∉ [2501, 2502, 2560, 2688] from by decide +kernel)).trans e_z1692.symm
            have q1812 : s1807 177 6 = z1693 := (t_s1807 177 6 (show 1223 ∉ [2501, 2502, 2560, 2688] from by decide +kernel)).trans e_z1693.symm
            have TK_s1807 : TKs s1807 := TKs.fl i_TK t_s1807 (by decide +kernel)
            obtain ⟨z1813, e_z1813⟩ : ∃ z, z = s1807 218 5 := ⟨_, rfl⟩
            have g_z1813 : (-2147483648) ≤ s1807 218 5 ∧ s1807 218 5 ≤ 2147483647 := hG_s1807 218 5
            show xe none 8 37 [(0, .ref 218), (1, .ref 177), (2, vi x2)] [] s1807 0 0 _
            refine x_A k8_37 (fun _ => rfl) ?_
            refine x_callV k8_38 (y := 51) (n := 0) (w0 := 0) (w1 := 0) (as := []) (rest := []) (by decide +kernel) (q := 177) (nq := 7) (kq := 7) ⟨by decide, rfl⟩ rfl rfl rfl rfl (xe_mono (E_X6_advance_177 s1807 hG_s1807 (by omega)) ?_)
            rintro s1815 v ⟨hG_s1815, t_s1815, rfl, xp_z1814⟩
            have f_s1815 : FL [2501, 2502, 2560, 2688, 2816, 1219, 1220, 1221, 1222, 1223] s0 s1815 := f_s1807.tr t_s1815 (by decide +kernel)
            have q1816 : s1815 177 5 = x1000 := (t_s1815 177 5 (show 1222 ∉ [1219, 1220, 1221] from by decide +kernel)).trans q1808
            have q1817 : s1815 177 1 = x1002 := (t_s1815 177 1 (show 1218 ∉ [1219, 1220, 1221] from by decide +kernel)).trans q1809
            have q1818 : s1815 177 6 = z1693 := (t_s1815 177 6 (show 1223 ∉ [1219, 1220, 1221] from by decide +kernel)).trans q1812
            have q1819 : s1815 218 5 = z1813 := (t_s1815 218 5 (show 2502 ∉ [1219, 1220, 1221] from by decide +kernel)).trans e_z1813.symm
            show xe none 8 41 [(0, .ref 218), (1, .ref 177), (2, vi x2)] [] s1815 0 0 _
            have tq1820 := xp_z1814
            rw [show s1807 178 = s0 178 from funext fun i => f_s1807 178 i (show 1280 ∉ [2501, 2502, 2560, 2688, 2816, 1219, 1220, 1221, 1222, 1223] from by decide +kernel), show s1807 177 1 = s0 177 1 from f_s1807 177 1 (show 1218 ∉ [2501, 2502, 2560, 2688, 2816, 1219, 1220, 1221, 1222, 1223] from by decide +kernel), show s1807 177 4 = te (s0 178) (s0 177 1) x1003 by omega] at tq1820
            have TK_s1815 : TKs s1815 := TK.s tq1820 (show s1815 178 = s0 178 from funext fun i => f_s1815 178 i (show 1280 ∉ [2501, 2502, 2560, 2688, 2816, 1219, 1220, 1221, 1222, 1223] from by decide +kernel)) (by omega)
            have nq : s1815 177 3 = nx (s0 178) (s0 177 1) x1003 := tq1820.2.2.1
            have nr : nx (s0 178) (s0 177 1) x1003 = sk (s0 178) (s0 177 1) (te (s0 178) (s0 177 1) x1003) := rfl
            obtain ⟨z1821, e_z1821⟩ : ∃ z, z = s1815 177 3 := ⟨_, rfl⟩
            have g_z1821 : (0 : Int) ≤ s1815 177 3 ∧ s1815 177 3 ≤ 160 := hG_s1815 177 3
            unfold TK at tq1820
            refine x_iinc k8_41 (ls' := [(2, vi (x2 + 1)), (0, .ref 218), (1, .ref 177)]) rfl (by decide) rfl ?_
            refine x_goto k8_44 (t := 2) rfl ?_
            refine x_ls (l := [(0, .ref 218), (1, .ref 177), (2, vi (x2 + 1))]) (show ([0, 1, 2] : List Nat).Nodup from by decide +kernel) ⟨rfl, rfl, rfl, trivial⟩ ?_
            exact ih s1815 (x2 + 1) x1000 z1813 x1002 z1821 hG_s1815 f_s1815 ⟨by omega, by omega⟩ (by first | exact x_rb b_x1000 rfl rfl | exact ⟨by omega, by omega⟩) (by first | exact x_rbe e_z1813 g_z1813 rfl rfl | exact x_rb g_z1813 rfl rfl | exact ⟨by omega, by omega⟩) (by first | exact x_rb b_x1002 rfl rfl | exact ⟨by omega, by omega⟩) (by first | exact x_rbe e_z1821 g_z1821 rfl rfl | exact x_rb g_z1821 rfl rfl | exact ⟨by omega, by omega⟩) (by omega) (show s1815 178 = s0 178 from funext fun i => f_s1815 178 i (show 1280 ∉ [2501, 2502, 2560, 2688, 2816, 1219, 1220, 1221, 1222, 1223] from by decide +kernel)) (fun hz => by rw [show z1813 = x1001 - 1 by omega, show z1821 = nx (s0 178) (s0 177 1) x1003 by omega]; exact (w_2 (by omega)).cl (by omega) (by omega)) (fun hz => by exfalso; omega) (by omega) (by omega) (by omega) (q1816).symm (q1819).symm (q1817).symm (e_z1821.symm).symm TK_s1815  (by omega)
          · skip
            refine x_goto k8_30 (t := 47) rfl ?_
            refine x_A k8_47 (fun _ => rfl) ?_
            refine x_getI k8_48 (f := 5) rfl (q := 177) (n := 7) (kd := 7) ⟨by decide, rfl⟩ (by decide) rfl ?_
            refine x_rw (e_x1000.symm) ?_
            refine x_if_eq k8_51 (t := 56) rfl (by first | exact x_rb b_x1000 rfl rfl | exact ⟨by omega, by omega⟩) (fun c1822 => ?_) (fun c1822 => by exfalso; omega)
            refine x_A k8_56 (fun _ => rfl) ?_
            refine x_getI k8_57 (f := 2) rfl (q := 177) (n := 7) (kd := 7) ⟨by decide, rfl⟩ (by decide) rfl ?_
            refine x_top (fun z1823 e_z1823 => ?_)
            have g_z1823 : (0 : Int) ≤ s 177 2 ∧ s 177 2 ≤ 3 := hG 177 2
            refine x_if_ne k8_60 (t := 72) rfl (by first | exact x_rbe e_z1823 g_z1823 rfl rfl | exact x_rb g_z1823 rfl rfl | exact ⟨by omega, by omega⟩) (fun c1824 => ?_) (fun c1824 => ?_)
            · skip
              refine x_A k8_72 (fun _ => rfl) ?_
              refine x_ldcR k8_73 (q := 2007) rfl ?_
              refine x_callV k8_75 (y := 53) (n := 1) (w0 := 0) (w1 := 1) (as := [.ref 2007]) (rest := []) (by decide +kernel) (q := 177) (nq := 7) (kq := 7) ⟨by decide, rfl⟩ rfl rfl rfl rfl (xe_mono (E_X6_isWord_177_2007 s hG i_TK) ?_)
              rintro s1826 v ⟨-, t_s1826, z1825, rfl, g_z1825, xp_z1825⟩
              rw [t_s1826.nil]
              try rw [t_s1826.nil] at xp_z1825
              show xe none 8 78 [(0, .ref 218), (1, .ref 177), (2, vi x2)] [vi z1825] s 0 0 _
              have sa := xp_z1825
              rw [w_1, show s 177 1 = s0 177 1 by omega, show s 177 3 = x1003 by omega] at sa
              refine x_if_eq k8_78 (t := 90) rfl (by first | exact x_rbe e_z1825 g_z1825 rfl rfl | exact x_rb g_z1825 rfl rfl | exact ⟨by omega, by omega⟩) (fun c1827 => ?_) (fun c1827 => ?_)
              · skip
                refine x_A k8_90 (fun _ => rfl) ?_
                refine x_ldcR k8_91 (q := 2008) rfl ?_
                refine x_callV k8_93 (y := 53) (n := 1) (w0 := 0) (w1 := 1) (as := [.ref 2008]) (rest := []) (by decide +kernel) (q := 177) (nq := 7) (kq := 7) ⟨by decide, rfl⟩ rfl rfl rfl rfl (xe_mono (E_X6_isWord_177_2008 s hG i_TK) ?_)
                rintro s1829 v ⟨-, t_s1829, z1828, rfl, g_z1828, xp_z1828⟩
                rw [t_s1829.nil]
                try rw [t_s1829.nil] at xp_z1828
                show xe none 8 96 [(0, .ref 218), (1, .ref 177), (2, vi x2)] [vi z1828] s 0 0 _
                have so := xp_z1828
                rw [w_1, show s 177 1 = s0 177 1 by omega, show s 177 3 = x1003 by omega] at so
                refine x_if_eq k8_96 (t := 108) rfl (by first | exact x_rbe e_z1828 g_z1828 rfl rfl | exact x_rb g_z1828 rfl rfl | exact ⟨by omega, by omega⟩) (fun c1830 => ?_) (fun c1830 => ?_)
                · skip
                  refine x_A k8_108 (fun _ => rfl) ?_
                  refine x_A k8_109 (fun _ => rfl) ?_
                  refine x_A k8_110 (fun _ => rfl) ?_
                  refine x_getI k8_111 (f := 3) rfl (q := 177) (n := 7) (kd := 7) ⟨by decide, rfl⟩ (by decide) rfl ?_
                  refine x_rw (e_x1003.symm) ?_
                  refine x_callV k8_114 (y := 52) (n := 2) (w0 := 0) (w1 := 2) (as := [vi 1, vi x1003]) (rest := []) (by decide +kernel) (q := 177) (nq := 7) (kq := 7) ⟨by decide, rfl⟩ rfl rfl rfl rfl (xe_mono (E_X6_fail_177 s hG 1 ⟨by decide, by decide⟩ x1003 (by first | exact x_rb b_x1003 rfl rfl | exact ⟨by omega, by omega⟩)) ?_)
                  rintro s1832 v ⟨hG_s1832, t_s1832, rfl, xp_z1831⟩
                  have f_s1832 : FL [2501, 2502, 2560, 2688, 2816, 1219, 1220, 1221, 1222, 1223] s0 s1832 := f.tr t_s1832 (by decide +kernel)
                  have q1833 : s1832 218 5 = x1001 := (t_s1832 218 5 (show 2502 ∉ [1222, 1223] from by decide +kernel)).trans e_x1001.symm
                  have q1834 : s1832 177 1 = x1002 := (t_s1832 177 1 (show 1218 ∉ [1222, 1223] from by decide +kernel)).trans e_x1002.symm
                  have q1835 : s1832 177 3 = x1003 := (t_s1832 177 3 (show 1220 ∉ [1222, 1223] from by decide +kernel)).trans e_x1003.symm
                  have q1836 : s1832 177 4 = z1692 := (t_s1832 177 4 (show 1221 ∉ [1222, 1223] from by decide +kernel)).trans e_z1692.symm
                  have q1837 : s1832 177 2 = z1823 := (t_s1832 177 2 (show 1219 ∉ [1222, 1223] from by decide +kernel)).trans e_z1823.symm
                  have TK_s1832 : TKs s1832 := TKs.fl i_TK t_s1832 (by decide +kernel)
                  obtain ⟨z1838, e_z1838⟩ : ∃ z, z = s1832 177 5 := ⟨_, rfl⟩
                  have g_z1838 : (0 : Int) ≤ s1832 177 5 ∧ s1832 177 5 ≤ 5 := hG_s1832 177 5
                  obtain ⟨z1839, e_z1839⟩ : ∃ z, z = s1832 177 6 := ⟨_, rfl⟩
                  have g_z1839 : (-2147483648) ≤ s1832 177 6 ∧ s1832 177 6 ≤ 2147483647 := hG_s1832 177 6
                  show xe none 8 117 [(0, .ref 218), (1, .ref 177), (2, vi x2)] [] s1832 0 0 _
                  refine x_A k8_117 (fun _ => rfl) ?_
                  refine x_getI k8_118 (f := 5) rfl (q := 177) (n := 7) (kd := 7) ⟨by decide, rfl⟩ (by decide) rfl ?_
                  refine x_rw (e_z1838.symm) ?_
                  refine x_if_eq k8_121 (t := 126) rfl (by first | exact x_rbe e_z1838 g_z1838 rfl rfl | exact x_rb g_z1838 rfl rfl | exact ⟨by omega, by omega⟩) (fun c1840 => by exfalso; omega) (fun c1840 => ?_)
                  refine x_A k8_124 (fun _ => rfl) ?_
                  exact x_zret k8_125 rfl ⟨by omega, by omega⟩ ⟨hG_s1832, f_s1832, 0, rfl, ⟨by decide, by decide⟩, Or.inr ⟨rfl, Or.inr ⟨by omega, by rw [show s1832 177 5 = 1 by omega, show s1832 177 6 = x1003 by omega]; exact (w_2 (by omega)).bad ⟨by omega, by omega⟩ (by omega) (by have kc := kd_cs (T := s0 178) (n := s0 177 1) (p := x1003); omega)⟩⟩, TK_s1832⟩
                · skip
                  refine x_A k8_99 (fun _ => rfl) ?_
                  refine x_bipush k8_100 (by decide +kernel) ?_
                  refine x_callV k8_102 (y := 10) (n := 1) (w0 := 0) (w1 := 1) (as := [vi 7]) (rest := []) (by decide +kernel) (q := 218) (nq := 7) (kq := 11) ⟨by decide, rfl⟩ rfl rfl rfl rfl (xe_mono (C_X0_joinBy_218 s hG 7 ⟨by decide, by decide⟩) ?_)
                  rintro s1842 v ⟨hG_s1842, t_s1842, rfl⟩
                  have f_s1842 : FL [2501, 2502, 2560, 2688, 2816, 1219, 1220, 1221, 1222, 1223] s0 s1842 := f.tr t_s1842 (by decide +kernel)
                  have q1843 : s1842 177 5 = x1000 := (t_s1842 177 5 (show 1222 ∉ [2501, 2560, 2688, 2816] from by decide +kernel)).trans e_x1000.symm
                  have q1844 : s1842 218 5 = x1001 := (t_s1842 218 5 (show 2502 ∉ [2501, 2560, 2688, 2816] from by decide +kernel)).trans e_x1001.symm
                  have q1845 : s1842 177 1 = x1002 := (t_s1842 177 1 (show 1218 ∉ [2501, 2560, 2688, 2816] from by decide +kernel)).trans e_x1002.symm
                  have q1846 : s1842 177 3 = x1003 := (t_s1842 177 3 (show 1220 ∉ [2501, 2560, 2688, 2816] from by decide +kernel)).trans e_x1003.symm
                  have q1847 : s1842 177 4 = z1692 := (t_s1842 177 4 (show 1221 ∉ [2501, 2560, 2688, 2816] from by decide +kernel)).trans e_z1692.symm
                  have q1848 : s1842 177 6 = z1693 := (t_s1842 177 6 (show 1223 ∉ [2501, 2560, 2688, 2816] from by decide +kernel)).trans e_z1693.symm
                  have q1849 : s1842 177 2 = z1823 := (t_s1842 177 2 (show 1219 ∉ [2501, 2560, 2688, 2816] from by decide +kernel)).trans e_z1823.symm
                  have TK_s1842 : TKs s1842 := TKs.fl i_TK t_s1842 (by decide +kernel)
                  show xe none 8 105 [(0, .ref 218), (1, .ref 177), (2, vi x2)] [] s1842 0 0 _
                  refine x_goto k8_105 (t := 117) rfl ?_
                  refine x_A k8_117 (fun _ => rfl) ?_
                  refine x_getI k8_118 (f := 5) rfl (q := 177) (n := 7) (kd := 7) ⟨by decide, rfl⟩ (by decide) rfl ?_
                  refine x_rw (q1843) ?_
                  refine x_if_eq k8_121 (t := 126) rfl (by first | exact x_rb b_x1000 rfl rfl | exact ⟨by omega, by omega⟩) (fun c1850 => ?_) (fun c1850 => by exfalso; omega)
                  refine x_A k8_126 (fun _ => rfl) ?_
                  refine x_callV k8_127 (y := 51) (n := 0) (w0 := 0) (w1 := 0) (as := []) (rest := []) (by decide +kernel) (q := 177) (nq := 7) (kq := 7) ⟨by decide, rfl⟩ rfl rfl rfl rfl (xe_mono (E_X6_advance_177 s1842 hG_s1842 (by omega)) ?_)
                  rintro s1852 v ⟨hG_s1852, t_s1852, rfl, xp_z1851⟩
                  have f_s1852 : FL [2501, 2502, 2560, 2688, 2816, 1219, 1220, 1221, 1222, 1223] s0 s1852 := f_s1842.tr t_s1852 (by decide +kernel)
                  have q1853 : s1852 177 5 = x1000 := (t_s1852 177 5 (show 1222 ∉ [1219, 1220, 1221] from by decide +kernel)).trans q1843
                  have q1854 : s1852 218 5 = x1001 := (t_s1852 218 5 (show 2502 ∉ [1219, 1220, 1221] from by decide +kernel)).trans q1844
                  have q1855 : s1852 177 1 = x1002 := (t_s1852 177 1 (show 1218 ∉ [1219, 1220, 1221] from by decide +kernel)).trans q1845
                  have q1856 : s1852 177 6 = z1693 := (t_s1852 177 6 (show 1223 ∉ [1219, 1220, 1221] from by decide +kernel)).trans q1848
                  show xe none 8 130 [(0, .ref 218), (1, .ref 177), (2, vi x2)] [] s1852 0 0 _
                  have tq1857 := xp_z1851
                  rw [show s1842 178 = s0 178 from funext fun i => f_s1842 178 i (show 1280 ∉ [2501, 2502, 2560, 2688, 2816, 1219, 1220, 1221, 1222, 1223] from by decide +kernel), show s1842 177 1 = s0 177 1 from f_s1842 177 1 (show 1218 ∉ [2501, 2502, 2560, 2688, 2816, 1219, 1220, 1221, 1222, 1223] from by decide +kernel), show s1842 177 4 = te (s0 178) (s0 177 1) x1003 by omega] at tq1857
                  have TK_s1852 : TKs s1852 := TK.s tq1857 (show s1852 178 = s0 178 from funext fun i => f_s1852 178 i (show 1280 ∉ [2501, 2502, 2560, 2688, 2816, 1219, 1220, 1221, 1222, 1223] from by decide +kernel)) (by omega)
                  have nq : s1852 177 3 = nx (s0 178) (s0 177 1) x1003 := tq1857.2.2.1
                  have nr : nx (s0 178) (s0 177 1) x1003 = sk (s0 178) (s0 177 1) (te (s0 178) (s0 177 1) x1003) := rfl
                  obtain ⟨z1858, e_z1858⟩ : ∃ z, z = s1852 177 3 := ⟨_, rfl⟩
                  have g_z1858 : (0 : Int) ≤ s1852 177 3 ∧ s1852 177 3 ≤ 160 := hG_s1852 177 3
                  unfold TK at tq1857
                  refine x_A k8_130 (fun _ => rfl) ?_
                  exact x_zret k8_131 rfl ⟨by omega, by omega⟩ ⟨hG_s1852, f_s1852, 1, rfl, ⟨by decide, by decide⟩, Or.inl ⟨rfl, by omega, by rw [show s1852 218 5 = x1001 by omega, show s1852 177 3 = nx (s0 178) (s0 177 1) x1003 by omega]; exact (w_2 (by omega)).jn (by omega), ⟨by omega, by omega⟩, by omega, by omega⟩, TK_s1852⟩
              · skip
                refine x_A k8_81 (fun _ => rfl) ?_
                refine x_bipush k8_82 (by decide +kernel) ?_
                refine x_callV k8_84 (y := 10) (n := 1) (w0 := 0) (w1 := 1) (as := [vi 8]) (rest := []) (by decide +kernel) (q := 218) (nq := 7) (kq := 11) ⟨by decide, rfl⟩ rfl rfl rfl rfl (xe_mono (C_X0_joinBy_218 s hG 8 ⟨by decide, by decide⟩) ?_)
                rintro s1860 v ⟨hG_s1860, t_s1860, rfl⟩
                have f_s1860 : FL [2501, 2502, 2560, 2688, 2816, 1219, 1220, 1221, 1222, 1223] s0 s1860 := f.tr t_s1860 (by decide +kernel)
                have q1861 : s1860 177 5 = x1000 := (t_s1860 177 5 (show 1222 ∉ [2501, 2560, 2688, 2816] from by decide +kernel)).trans e_x1000.symm
                have q1862 : s1860 218 5 = x1001 := (t_s1860 218 5 (show 2502 ∉ [2501, 2560, 2688, 2816] from by decide +kernel)).trans e_x1001.symm
                have q1863 : s1860 177 1 = x1002 := (t_s1860 177 1 (show 1218 ∉ [2501, 2560, 2688, 2816] from by decide +kernel)).trans e_x1002.symm
                have q1864 : s1860 177 3 = x1003 := (t_s1860 177 3 (show 1220 ∉ [2501, 2560, 2688, 2816] from by decide +kernel)).trans e_x1003.symm
                have q1865 : s1860 177 4 = z1692 := (t_s1860 177 4 (show 1221 ∉ [2501, 2560, 2688, 2816] from by decide +kernel)).trans e_z1692.symm
                have q1866 : s1860 177 6 = z1693 := (t_s1860 177 6 (show 1223 ∉ [2501, 2560, 2688, 2816] from by decide +kernel)).trans e_z1693.symm
                have q1867 : s1860 177 2 = z1823 := (t_s1860 177 2 (show 1219 ∉ [2501, 2560, 2688, 2816] from by decide +kernel)).trans e_z1823.symm
                have TK_s1860 : TKs s1860 := TKs.fl i_TK t_s1860 (by decide +kernel)
                show xe none 8 87 [(0, .ref 218), (1, .ref 177), (2, vi x2)] [] s1860 0 0 _
                refine x_goto k8_87 (t := 117) rfl ?_
                refine x_A k8_117 (fun _ => rfl) ?_
                refine x_getI k8_118 (f := 5) rfl (q := 177) (n := 7) (kd := 7) ⟨by decide, rfl⟩ (by decide) rfl ?_
                refine x_rw (q1861) ?_
                refine x_if_eq k8_121 (t := 126) rfl (by first | exact x_rb b_x1000 rfl rfl | exact ⟨by omega, by omega⟩) (fun c1868 => ?_) (fun c1868 => by exfalso; omega)
                refine x_A k8_126 (fun _ => rfl) ?_
                refine x_callV k8_127 (y := 51) (n := 0) (w0 := 0) (w1 := 0) (as := []) (rest := []) (by decide +kernel) (q := 177) (nq := 7) (kq := 7) ⟨by decide, rfl⟩ rfl rfl rfl rfl (xe_mono (E_X6_advance_177 s1860 hG_s1860 (by omega)) ?_)
                rintro s1870 v ⟨hG_s1870, t_s1870, rfl, xp_z1869⟩
                have f_s1870 : FL [2501, 2502, 2560, 2688, 2816, 1219, 1220, 1221, 1222, 1223] s0 s1870 := f_s1860.tr t_s1870 (by decide +kernel)
                have q1871 : s1870 177 5 = x1000 := (t_s1870 177 5 (show 1222 ∉ [1219, 1220, 1221] from by decide +kernel)).trans q1861
                have q1872 : s1870 218 5 = x1001 := (t_s1870 218 5 (show 2502 ∉ [1219, 1220, 1221] from by decide +kernel)).trans q1862
                have q1873 : s1870 177 1 = x1002 := (t_s1870 177 1 (show 1218 ∉ [1219, 1220, 1221] from by decide +kernel)).trans q1863
                have q1874 : s1870 177 6 = z1693 := (t_s1870 177 6 (show 1223 ∉ [1219, 1220, 1221] from by decide +kernel)).trans q1866
                show xe none 8 130 [(0, .ref 218), (1, .ref 177), (2, vi x2)] [] s1870 0 0 _
                have tq1875 := xp_z1869
                rw [show s1860 178 = s0 178 from funext fun i => f_s1860 178 i (show 1280 ∉ [2501, 2502, 2560, 2688, 2816, 1219, 1220, 1221, 1222, 1223] from by decide +kernel), show s1860 177 1 = s0 177 1 from f_s1860 177 1 (show 1218 ∉ [2501, 2502, 2560, 2688, 2816, 1219, 1220, 1221, 1222, 1223] from by decide +kernel), show s1860 177 4 = te (s0 178) (s0 177 1) x1003 by omega] at tq1875
                have TK_s1870 : TKs s1870 := TK.s tq1875 (show s1870 178 = s0 178 from funext fun i => f_s1870 178 i (show 1280 ∉ [2501, 2502, 2560, 2688, 2816, 1219, 1220, 1221, 1222, 1223] from by decide +kernel)) (by omega)
                have nq : s1870 177 3 = nx (s0 178) (s0 177 1) x1003 := tq1875.2.2.1
                have nr : nx (s0 178) (s0 177 1) x1003 = sk (s0 178) (s0 177 1) (te (s0 178) (s0 177 1) x1003) := rfl
                obtain ⟨z1876, e_z1876⟩ : ∃ z, z = s1870 177 3 := ⟨_, rfl⟩
                have g_z1876 : (0 : Int) ≤ s1870 177 3 ∧ s1870 177 3 ≤ 160 := hG_s1870 177 3
                unfold TK at tq1875
                refine x_A k8_130 (fun _ => rfl) ?_
                exact x_zret k8_131 rfl ⟨by omega, by omega⟩ ⟨hG_s1870, f_s1870, 1, rfl, ⟨by decide, by decide⟩, Or.inl ⟨rfl, by omega, by rw [show s1870 218 5 = x1001 by omega, show s1870 177 3 = nx (s0 178) (s0 177 1) x1003 by omega]; exact (w_2 (by omega)).jn (by omega), ⟨by omega, by omega⟩, by omega, by omega⟩, TK_s1870⟩
            · skip
              refine x_A k8_63 (fun _ => rfl) ?_
              refine x_getI k8_64 (f := 5) rfl (q := 218) (n := 7) (kd := 11) ⟨by decide, rfl⟩ (by decide) rfl ?_
              refine x_rw (e_x1001.symm) ?_
              refine x_if_ne k8_67 (t := 72) rfl (by first | exact x_rb b_x1001 rfl rfl | exact ⟨by omega, by omega⟩) (fun c1877 => by exfalso; omega) (fun c1877 => ?_)
              refine x_A k8_70 (fun _ => rfl) ?_
              exact x_zret k8_71 rfl ⟨by omega, by omega⟩ ⟨hG, f, 0, rfl, ⟨by decide, by decide⟩, Or.inr ⟨rfl, Or.inl ⟨by omega, (w_2 (by omega)).fin (by omega) (by have kc := kd_cs (T := s0 178) (n := s0 177 1) (p := x1003); omega)⟩⟩, i_TK⟩
