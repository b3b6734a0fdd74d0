set_option maxHeartbeats 8000000 in
theorem L_W_X0_readUpToJoin_218_177_2 (s0 : xS) (pa : s0 177 1 ≤ 100 ∧ 0 ≤ s0 218 5 ∧ s0 218 5 ≤ 6 ∧ (s0 177 5 = 0 → s0 218 5 ≤ 5) ∧ 0 ≤ s0 177 3 ∧ s0 177 3 ≤ s0 177 1) (pe : s0 177 5 = 0 → AI (s0 178) (s0 177 1) 0 (s0 218 5) (s0 177 3)) (pf : s0 177 5 ≠ 0 → AF (s0 178) (s0 177 1) (s0 177 5) (s0 177 6))  : ∀ (n : Nat) (s : xS) (x2 : Int) (x1000 : Int) (x1001 : Int) (x1002 : Int) (x1003 : Int) (x1004 : Int) (hG : GI s) (f : FL [2501, 2502, 2560, 2688, 2816, 1219, 1220, 1221, 1222, 1223] s0 s) (b_x2 : 0 ≤ x2 ∧ x2 ≤ 6) (b_x1000 : 0 ≤ x1000 ∧ x1000 ≤ 5) (b_x1001 : (-2147483648) ≤ x1001 ∧ x1001 ≤ 2147483647) (b_x1002 : 0 ≤ x1002 ∧ x1002 ≤ 160) (b_x1003 : 0 ≤ x1003 ∧ x1003 ≤ 160) (b_x1004 : 0 ≤ x1004 ∧ x1004 ≤ 7) (w_0 : x1002 = s0 177 1 ∧ x1002 ≤ 100) (w_1 : s 178 = s0 178) (w_2 : x1000 = 0 → AI (s0 178) (s0 177 1) 0 x1001 x1003) (w_3 : x1000 ≠ 0 → AF (s0 178) (s0 177 1) x1000 (s 177 6)) (w_4 : 0 ≤ x1001 ∧ x1001 ≤ 6 ∧ (x1000 = 0 → x1001 + x2 ≤ 5)) (w_5 : 0 ≤ s0 177 3 ∧ s0 177 3 ≤ x1003 ∧ x1003 ≤ x1002) (w_6 : x1000 = s0 177 5) (w_7 : x1004 = s0 218 6 ∧ x1004 ≤ 7) (w_8 : KF s s0) (w_9 : x1000 = 0 → XK (s0 178) (s0 177 1) s0 (s0 218 5) (s0 177 3) → XK (s0 178) (s0 177 1) s x1001 x1003) (e_x1000 : x1000 = s 177 5) (e_x1001 : x1001 = s 218 5) (e_x1002 : x1002 = s 177 1) (e_x1003 : x1003 = s 177 3) (e_x1004 : x1004 = s 218 6) (i_TK : TKs s)  (hm : (6 - x2) < (n : Int)), xe none 8 2 [(0, .ref 218), (1, .ref 177), (2, vi x2)] [] s 0 0 (fun s' v => GI s' ∧ FL [2501, 2502, 2560, 2688, 2816, 1219, 1220, 1221, 1222, 1223] s0 s' ∧ ∃ z, v = some (vi z) ∧ (0 ≤ z ∧ z ≤ 1) ∧ (((z = 1 ∧ s' 177 5 = 0 ∧ AI (s0 178) (s0 177 1) 1 (s' 218 5) (s' 177 3) ∧ (0 ≤ s' 218 5 ∧ s' 218 5 ≤ 5) ∧ s0 177 3 ≤ s' 177 3 ∧ s0 177 5 = 0) ∨ (z = 0 ∧ ((s' 177 5 = 0 ∧ AD (s0 178) (s0 177 1)) ∨ (s' 177 5 ≠ 0 ∧ AF (s0 178) (s0 177 1) (s' 177 5) (s' 177 6))))) ∧ KF s' s0 ∧ (z = 1 → XK (s0 178) (s0 177 1) s0 (s0 218 5) (s0 177 3) → YK (s0 178) (s0 177 1) s' (s' 218 5) (s' 177 3)) ∧ (z = 0 → s' 177 5 = 0 → s0 177 5 = 0 ∧ (XK (s0 178) (s0 177 1) s0 (s0 218 5) (s0 177 3) → ZK (s0 178) (s0 177 1) s'))) ∧ TKs s') := by
  intro n
  induction n with
  | zero => intro s x2 x1000 x1001 x1002 x1003 x1004 hG f b_x2 b_x1000 b_x1001 b_x1002 b_x1003 b_x1004 w_0 w_1 w_2 w_3 w_4 w_5 w_6 w_7 w_8 w_9 e_x1000 e_x1001 e_x1002 e_x1003 e_x1004 i_TK  hm; exfalso; omega
  | succ n ih =>
    intro s x2 x1000 x1001 x1002 x1003 x1004 hG f b_x2 b_x1000 b_x1001 b_x1002 b_x1003 b_x1004 w_0 w_1 w_2 w_3 w_4 w_5 w_6 w_7 w_8 w_9 e_x1000 e_x1001 e_x1002 e_x1003 e_x1004 i_TK  hm
    refine x_A k8_2 (fun _ => rfl) ?_
    refine x_A k8_3 (fun _ => rfl) ?_
    refine x_ic_gt k8_4 (t := 47) rfl ⟨by omega, by omega⟩ ⟨by omega, by omega⟩ (fun c1736 => ?_) (fun c1736 => ?_)
    · skip
      refine x_A k8_47 (fun _ => rfl) ?_
      refine x_getI k8_48 (f := 5) rfl (q := 177) (n := 7) (kd := 7) ⟨by decide, rfl⟩ (by decide) rfl ?_
      refine x_rw (e_x1000.symm) ?_
      refine x_if_eq k8_51 (t := 56) rfl ⟨by omega, by omega⟩ (fun c1737 => ?_) (fun c1737 => ?_)
      · skip
        have tkL := i_TK
        unfold TKs TK at tkL
        rw [w_1, show s 177 1 = s0 177 1 by omega, show s 177 3 = x1003 by omega] at tkL
        have tlL := te_le (T := s0 178) (n := s0 177 1) (p := x1003)
        have slL := sk_le (T := s0 178) (n := s0 177 1) (p := te (s0 178) (s0 177 1) x1003)
        obtain ⟨z1738, e_z1738⟩ : ∃ z, z = s 177 4 := ⟨_, rfl⟩
        have g_z1738 : (0 : Int) ≤ s 177 4 ∧ s 177 4 ≤ 160 := hG 177 4
        obtain ⟨z1739, e_z1739⟩ : ∃ z, z = s 177 6 := ⟨_, rfl⟩
        have g_z1739 : (-2147483648) ≤ s 177 6 ∧ s 177 6 ≤ 2147483647 := hG 177 6
        refine x_A k8_56 (fun _ => rfl) ?_
        refine x_getI k8_57 (f := 2) rfl (q := 177) (n := 7) (kd := 7) ⟨by decide, rfl⟩ (by decide) rfl ?_
        refine x_top (fun z1740 e_z1740 => ?_)
        have g_z1740 : (0 : Int) ≤ s 177 2 ∧ s 177 2 ≤ 3 := hG 177 2
        refine x_if_ne k8_60 (t := 72) rfl ⟨by omega, by omega⟩ (fun c1741 => ?_) (fun c1741 => ?_)
        · skip
          refine x_A k8_72 (fun _ => rfl) ?_
          refine x_ldcR k8_73 (q := 2007) rfl ?_
          refine x_callV k8_75 (y := 53) (n := 1) (w0 := 0) (w1 := 1) (as := [.ref 2007]) (rest := []) (by decide +kernel) (q := 177) (nq := 7) (kq := 7) ⟨by decide, rfl⟩ rfl rfl rfl rfl (xe_mono (E_X6_isWord_177_2007 s hG i_TK) ?_)
          rintro s1743 v ⟨-, t_s1743, z1742, rfl, g_z1742, xp_z1742⟩
          rw [t_s1743.nil]
          try rw [t_s1743.nil] at xp_z1742
          show xe none 8 78 [(0, .ref 218), (1, .ref 177), (2, vi x2)] [vi z1742] s 0 0 _
          have sa := xp_z1742
          rw [w_1, show s 177 1 = s0 177 1 by omega, show s 177 3 = x1003 by omega] at sa
          refine x_if_eq k8_78 (t := 90) rfl ⟨by omega, by omega⟩ (fun c1744 => ?_) (fun c1744 => ?_)
          · skip
            refine x_A k8_90 (fun _ => rfl) ?_
            refine x_ldcR k8_91 (q := 2008) rfl ?_
            refine x_callV k8_93 (y := 53) (n := 1) (w0 := 0) (w1 := 1) (as := [.ref 2008]) (rest := []) (by decide +kernel) (q := 177) (nq := 7) (kq := 7) ⟨by decide, rfl⟩ rfl rfl rfl rfl (xe_mono (E_X6_isWord_177_2008 s hG i_TK) ?_)
            rintro s1746 v ⟨-, t_s1746, z1745, rfl, g_z1745, xp_z1745⟩
            rw [t_s1746.nil]
            try rw [t_s1746.nil] at xp_z1745
            show xe none 8 96 [(0, .ref 218), (1, .ref 177), (2, vi x2)] [vi z1745] s 0 0 _
            have so := xp_z1745
            rw [w_1, show s 177 1 = s0 177 1 by omega, show s 177 3 = x1003 by omega] at so
            refine x_if_eq k8_96 (t := 108) rfl ⟨by omega, by omega⟩ (fun c1747 => ?_) (fun c1747 => ?_)
            · skip
              refine x_A k8_108 (fun _ => rfl) ?_
              refine x_A k8_109 (fun _ => rfl) ?_
              refine x_A k8_110 (fun _ => rfl) ?_
              refine x_getI k8_111 (f := 3) rfl (q := 177) (n := 7) (kd := 7) ⟨by decide, rfl⟩ (by decide) rfl ?_
              refine x_rw (e_x1003.symm) ?_
              refine x_callV k8_114 (y := 52) (n := 2) (w0 := 0) (w1 := 2) (as := [vi 1, vi x1003]) (rest := []) (by decide +kernel) (q := 177) (nq := 7) (kq := 7) ⟨by decide, rfl⟩ rfl rfl rfl rfl (xe_mono (E_X6_fail_177 s hG 1 ⟨by omega, by omega⟩ x1003 ⟨by omega, by omega⟩) ?_)
              rintro s1749 v ⟨hG_s1749, t_s1749, rfl, xp_z1748⟩
              have f_s1749 : FL [2501, 2502, 2560, 2688, 2816, 1219, 1220, 1221, 1222, 1223] s0 s1749 := f.tr t_s1749 (by decide)
              have q1750 : s1749 218 5 = x1001 := (t_s1749 218 5 (show 2502 ∉ [1222, 1223] from by decide)).trans e_x1001.symm
              have q1751 : s1749 177 1 = x1002 := (t_s1749 177 1 (show 1218 ∉ [1222, 1223] from by decide)).trans e_x1002.symm
              have q1752 : s1749 177 3 = x1003 := (t_s1749 177 3 (show 1220 ∉ [1222, 1223] from by decide)).trans e_x1003.symm
              have q1753 : s1749 218 6 = x1004 := (t_s1749 218 6 (show 2503 ∉ [1222, 1223] from by decide)).trans e_x1004.symm
              have q1754 : s1749 177 4 = z1738 := (t_s1749 177 4 (show 1221 ∉ [1222, 1223] from by decide)).trans e_z1738.symm
              have q1755 : s1749 177 2 = z1740 := (t_s1749 177 2 (show 1219 ∉ [1222, 1223] from by decide)).trans e_z1740.symm
              have TK_s1749 : TKs s1749 := TKs.fl i_TK t_s1749 (by decide)
              have KF_s1749 : KF s1749 s0 := KF.fl w_8 t_s1749 (by decide)
              obtain ⟨z1756, e_z1756⟩ : ∃ z, z = s1749 177 5 := ⟨_, rfl⟩
              have g_z1756 : (0 : Int) ≤ s1749 177 5 ∧ s1749 177 5 ≤ 5 := hG_s1749 177 5
              obtain ⟨z1757, e_z1757⟩ : ∃ z, z = s1749 177 6 := ⟨_, rfl⟩
              have g_z1757 : (-2147483648) ≤ s1749 177 6 ∧ s1749 177 6 ≤ 2147483647 := hG_s1749 177 6
              show xe none 8 117 [(0, .ref 218), (1, .ref 177), (2, vi x2)] [] s1749 0 0 _
              refine x_A k8_117 (fun _ => rfl) ?_
              refine x_getI k8_118 (f := 5) rfl (q := 177) (n := 7) (kd := 7) ⟨by decide, rfl⟩ (by decide) rfl ?_
              refine x_rw (e_z1756.symm) ?_
              refine x_if_eq k8_121 (t := 126) rfl ⟨by omega, by omega⟩ (fun c1758 => by exfalso; omega) (fun c1758 => ?_)
              refine x_A k8_124 (fun _ => rfl) ?_
              exact x_zret k8_125 rfl ⟨by omega, by omega⟩ ⟨hG_s1749, f_s1749, 0, rfl, ⟨by omega, by omega⟩, ⟨Or.inr ⟨rfl, Or.inr ⟨by omega, by rw [show s1749 177 5 = 1 by omega, show s1749 177 6 = x1003 by omega]; exact (w_2 (by omega)).bad ⟨by omega, by omega⟩ (by omega) (by have kc := kd_cs (T := s0 178) (n := s0 177 1) (p := x1003); omega)⟩⟩, KF_s1749, fun hz => by exfalso; omega, fun hz h0 => by exfalso; omega⟩, TK_s1749⟩
            · skip
              refine x_A k8_99 (fun _ => rfl) ?_
              refine x_bipush k8_100 (by decide +kernel) ?_
              refine x_callV k8_102 (y := 10) (n := 1) (w0 := 0) (w1 := 1) (as := [vi 7]) (rest := []) (by decide +kernel) (q := 218) (nq := 7) (kq := 11) ⟨by decide, rfl⟩ rfl rfl rfl rfl (xe_mono (W_X0_joinBy_218 s hG 7 ⟨by omega, by omega⟩ ⟨by omega, by omega⟩) ?_)
              rintro s1760 v ⟨hG_s1760, t_s1760, rfl, xp_z1759⟩
              have f_s1760 : FL [2501, 2502, 2560, 2688, 2816, 1219, 1220, 1221, 1222, 1223] s0 s1760 := f.tr t_s1760 (by decide)
              have q1761 : s1760 177 5 = x1000 := (t_s1760 177 5 (show 1222 ∉ [2501, 2560, 2688, 2816] from by decide)).trans e_x1000.symm
              have q1762 : s1760 218 5 = x1001 := (t_s1760 218 5 (show 2502 ∉ [2501, 2560, 2688, 2816] from by decide)).trans e_x1001.symm
              have q1763 : s1760 177 1 = x1002 := (t_s1760 177 1 (show 1218 ∉ [2501, 2560, 2688, 2816] from by decide)).trans e_x1002.symm
              have q1764 : s1760 177 3 = x1003 := (t_s1760 177 3 (show 1220 ∉ [2501, 2560, 2688, 2816] from by decide)).trans e_x1003.symm
              have q1765 : s1760 218 6 = x1004 := (t_s1760 218 6 (show 2503 ∉ [2501, 2560, 2688, 2816] from by decide)).trans e_x1004.symm
              have q1766 : s1760 177 4 = z1738 := (t_s1760 177 4 (show 1221 ∉ [2501, 2560, 2688, 2816] from by decide)).trans e_z1738.symm
              have q1767 : s1760 177 6 = z1739 := (t_s1760 177 6 (show 1223 ∉ [2501, 2560, 2688, 2816] from by decide)).trans e_z1739.symm
              have q1768 : s1760 177 2 = z1740 := (t_s1760 177 2 (show 1219 ∉ [2501, 2560, 2688, 2816] from by decide)).trans e_z1740.symm
              have TK_s1760 : TKs s1760 := TKs.fl i_TK t_s1760 (by decide)
              show xe none 8 105 [(0, .ref 218), (1, .ref 177), (2, vi x2)] [] s1760 0 0 _
              have KF_j : KF s1760 s0 := w_8.tr (by omega) xp_z1759.1
              refine x_goto k8_105 (t := 117) rfl ?_
              refine x_A k8_117 (fun _ => rfl) ?_
              refine x_getI k8_118 (f := 5) rfl (q := 177) (n := 7) (kd := 7) ⟨by decide, rfl⟩ (by decide) rfl ?_
              refine x_rw (q1761) ?_
              refine x_if_eq k8_121 (t := 126) rfl ⟨by omega, by omega⟩ (fun c1769 => ?_) (fun c1769 => by exfalso; omega)
              refine x_A k8_126 (fun _ => rfl) ?_
              refine x_callV k8_127 (y := 51) (n := 0) (w0 := 0) (w1 := 0) (as := []) (rest := []) (by decide +kernel) (q := 177) (nq := 7) (kq := 7) ⟨by decide, rfl⟩ rfl rfl rfl rfl (xe_mono (E_X6_advance_177 s1760 hG_s1760 (by omega)) ?_)
              rintro s1771 v ⟨hG_s1771, t_s1771, rfl, xp_z1770⟩
              have f_s1771 : FL [2501, 2502, 2560, 2688, 2816, 1219, 1220, 1221, 1222, 1223] s0 s1771 := f_s1760.tr t_s1771 (by decide)
              have q1772 : s1771 177 5 = x1000 := (t_s1771 177 5 (show 1222 ∉ [1219, 1220, 1221] from by decide)).trans q1761
              have q1773 : s1771 218 5 = x1001 := (t_s1771 218 5 (show 2502 ∉ [1219, 1220, 1221] from by decide)).trans q1762
              have q1774 : s1771 177 1 = x1002 := (t_s1771 177 1 (show 1218 ∉ [1219, 1220, 1221] from by decide)).trans q1763
              have q1775 : s1771 218 6 = x1004 := (t_s1771 218 6 (show 2503 ∉ [1219, 1220, 1221] from by decide)).trans q1765
              have q1776 : s1771 177 6 = z1739 := (t_s1771 177 6 (show 1223 ∉ [1219, 1220, 1221] from by decide)).trans q1767
              have KF_s1771 : KF s1771 s0 := KF.fl KF_j t_s1771 (by decide)
              show xe none 8 130 [(0, .ref 218), (1, .ref 177), (2, vi x2)] [] s1771 0 0 _
              have tq1777 := xp_z1770
              rw [show s1760 178 = s0 178 from funext fun i => f_s1760 178 i (show 1280 ∉ [2501, 2502, 2560, 2688, 2816, 1219, 1220, 1221, 1222, 1223] from by decide), show s1760 177 1 = s0 177 1 from f_s1760 177 1 (show 1218 ∉ [2501, 2502, 2560, 2688, 2816, 1219, 1220, 1221, 1222, 1223] from by decide), show s1760 177 4 = te (s0 178) (s0 177 1) x1003 by omega] at tq1777
              have TK_s1771 : TKs s1771 := TK.s tq1777 (show s1771 178 = s0 178 from funext fun i => f_s1771 178 i (show 1280 ∉ [2501, 2502, 2560, 2688, 2816, 1219, 1220, 1221, 1222, 1223] from by decide)) (by omega)
              have nq : s1771 177 3 = nx (s0 178) (s0 177 1) x1003 := tq1777.2.2.1
              have nr : nx (s0 178) (s0 177 1) x1003 = sk (s0 178) (s0 177 1) (te (s0 178) (s0 177 1) x1003) := rfl
              obtain ⟨z1778, e_z1778⟩ : ∃ z, z = s1771 177 3 := ⟨_, rfl⟩
              have g_z1778 : (0 : Int) ≤ s1771 177 3 ∧ s1771 177 3 ≤ 160 := hG_s1771 177 3
              unfold TK at tq1777
              refine x_A k8_130 (fun _ => rfl) ?_
              exact x_zret k8_131 rfl ⟨by omega, by omega⟩ ⟨hG_s1771, f_s1771, 1, rfl, ⟨by omega, by omega⟩, ⟨Or.inl ⟨rfl, by omega, by rw [show s1771 218 5 = x1001 by omega, show s1771 177 3 = nx (s0 178) (s0 177 1) x1003 by omega]; exact (w_2 (by omega)).jn (by omega), ⟨by omega, by omega⟩, by omega, by omega⟩, KF_s1771, fun _ y => by rw [show s1771 218 5 = x1001 by omega, show s1771 177 3 = nx (s0 178) (s0 177 1) x1003 by omega]; exact ((w_9 (by omega) y).jn ⟨by omega, by omega⟩ (by omega) xp_z1759).fl t_s1771 ⟨by omega, by omega⟩ (by decide), fun hz => by exfalso; omega⟩, TK_s1771⟩
          · skip
            refine x_A k8_81 (fun _ => rfl) ?_
            refine x_bipush k8_82 (by decide +kernel) ?_
            refine x_callV k8_84 (y := 10) (n := 1) (w0 := 0) (w1 := 1) (as := [vi 8]) (rest := []) (by decide +kernel) (q := 218) (nq := 7) (kq := 11) ⟨by decide, rfl⟩ rfl rfl rfl rfl (xe_mono (W_X0_joinBy_218 s hG 8 ⟨by omega, by omega⟩ ⟨by omega, by omega⟩) ?_)
            rintro s1780 v ⟨hG_s1780, t_s1780, rfl, xp_z1779⟩
            have f_s1780 : FL [2501, 2502, 2560, 2688, 2816, 1219, 1220, 1221, 1222, 1223] s0 s1780 := f.tr t_s1780 (by decide)
            have q1781 : s1780 177 5 = x1000 := (t_s1780 177 5 (show 1222 ∉ [2501, 2560, 2688, 2816] from by decide)).trans e_x1000.symm
            have q1782 : s1780 218 5 = x1001 := (t_s1780 218 5 (show 2502 ∉ [2501, 2560, 2688, 2816] from by decide)).trans e_x1001.symm
            have q1783 : s1780 177 1 = x1002 := (t_s1780 177 1 (show 1218 ∉ [2501, 2560, 2688, 2816] from by decide)).trans e_x1002.symm
            have q1784 : s1780 177 3 = x1003 := (t_s1780 177 3 (show 1220 ∉ [2501, 2560, 2688, 2816] from by decide)).trans e_x1003.symm
            have q1785 : s1780 218 6 = x1004 := (t_s1780 218 6 (show 2503 ∉ [2501, 2560, 2688, 2816] from by decide)).trans e_x1004.symm
            have q1786 : s1780 177 4 = z1738 := (t_s1780 177 4 (show 1221 ∉ [2501, 2560, 2688, 2816] from by decide)).trans e_z1738.symm
            have q1787 : s1780 177 6 = z1739 := (t_s1780 177 6 (show 1223 ∉ [2501, 2560, 2688, 2816] from by decide)).trans e_z1739.symm
            have q1788 : s1780 177 2 = z1740 := (t_s1780 177 2 (show 1219 ∉ [2501, 2560, 2688, 2816] from by decide)).trans e_z1740.symm
            have TK_s1780 : TKs s1780 := TKs.fl i_TK t_s1780 (by decide)
            show xe none 8 87 [(0, .ref 218), (1, .ref 177), (2, vi x2)] [] s1780 0 0 _
            have KF_j : KF s1780 s0 := w_8.tr (by omega) xp_z1779.1
            refine x_goto k8_87 (t := 117) rfl ?_
            refine x_A k8_117 (fun _ => rfl) ?_
            refine x_getI k8_118 (f := 5) rfl (q := 177) (n := 7) (kd := 7) ⟨by decide, rfl⟩ (by decide) rfl ?_
            refine x_rw (q1781) ?_
            refine x_if_eq k8_121 (t := 126) rfl ⟨by omega, by omega⟩ (fun c1789 => ?_) (fun c1789 => by exfalso; omega)
            refine x_A k8_126 (fun _ => rfl) ?_
            refine x_callV k8_127 (y := 51) (n := 0) (w0 := 0) (w1 := 0) (as := []) (rest := []) (by decide +kernel) (q := 177) (nq := 7) (kq := 7) ⟨by decide, rfl⟩ rfl rfl rfl rfl (xe_mono (E_X6_advance_177 s1780 hG_s1780 (by omega)) ?_)
            rintro s1791 v ⟨hG_s1791, t_s1791, rfl, xp_z1790⟩
            have f_s1791 : FL [2501, 2502, 2560, 2688, 2816, 1219, 1220, 1221, 1222, 1223] s0 s1791 := f_s1780.tr t_s1791 (by decide)
            have q1792 : s1791 177 5 = x1000 := (t_s1791 177 5 (show 1222 ∉ [1219, 1220, 1221] from by decide)).trans q1781
            have q1793 : s1791 218 5 = x1001 := (t_s1791 218 5 (show 2502 ∉ [1219, 1220, 1221] from by decide)).trans q1782
            have q1794 : s1791 177 1 = x1002 := (t_s1791 177 1 (show 1218 ∉ [1219, 1220, 1221] from by decide)).trans q1783
            have q1795 : s1791 218 6 = x1004 := (t_s1791 218 6 (show 2503 ∉ [1219, 1220, 1221] from by decide)).trans q1785
            have q1796 : s1791 177 6 = z1739 := (t_s1791 177 6 (show 1223 ∉ [1219, 1220, 1221] from by decide)).trans q1787
            have KF_s1791 : KF s1791 s0 := KF.fl KF_j t_s1791 (by decide)
            show xe none 8 130 [(0, .ref 218), (1, .ref 177), (2, vi x2)] [] s1791 0 0 _
            have tq1797 := xp_z1790
            rw [show s1780 178 = s0 178 from funext fun i => f_s1780 178 i (show 1280 ∉ [2501, 2502, 2560, 2688, 2816, 1219, 1220, 1221, 1222, 1223] from by decide), show s1780 177 1 = s0 177 1 from f_s1780 177 1 (show 1218 ∉ [2501, 2502, 2560, 2688, 2816, 1219, 1220, 1221, 1222, 1223] from by decide), show s1780 177 4 = te (s0 178) (s0 177 1) x1003 by omega] at tq1797
            have TK_s1791 : TKs s1791 := TK.s tq1797 (show s1791 178 = s0 178 from funext fun i => f_s1791 178 i (show 1280 ∉ [2501, 2502, 2560, 2688, 2816, 1219, 1220, 1221, 1222, 1223] from by decide)) (by omega)
            have nq : s1791 177 3 = nx (s0 178) (s0 177 1) x1003 := tq1797.2.2.1
            have nr : nx (s0 178) (s0 177 1) x1003 = sk (s0 178) (s0 177 1) (te (s0 178) (s0 177 1) x1003) := rfl
            obtain ⟨z1798, e_z1798⟩ : ∃ z, z = s1791 177 3 := ⟨_, rfl⟩
            have g_z1798 : (0 : Int) ≤ s1791 177 3 ∧ s1791 177 3 ≤ 160 := hG_s1791 177 3
            unfold TK at tq1797
            refine x_A k8_130 (fun _ => rfl) ?_
            exact x_zret k8_131 rfl ⟨by omega, by omega⟩ ⟨hG_s1791, f_s1791, 1, rfl, ⟨by omega, by omega⟩, ⟨Or.inl ⟨rfl, by omega, by rw [show s1791 218 5 = x1001 by omega, show s1791 177 3 = nx (s0 178) (s0 177 1) x1003 by omega]; exact (w_2 (by omega)).jn (by omega), ⟨by omega, by omega⟩, by omega, by omega⟩, KF_s1791, fun _ y => by rw [show s1791 218 5 = x1001 by omega, show s1791 177 3 = nx (s0 178) (s0 177 1) x1003 by omega]; exact ((w_9 (by omega) y).jn ⟨by omega, by omega⟩ (by omega) xp_z1779).fl t_s1791 ⟨by omega, by omega⟩ (by decide), fun hz => by exfalso; omega⟩, TK_s1791⟩
        · skip
          refine x_A k8_63 (fun _ => rfl) ?_
          refine x_getI k8_64 (f := 5) rfl (q := 218) (n := 7) (kd := 11) ⟨by decide, rfl⟩ (by decide) rfl ?_
          refine x_rw (e_x1001.symm) ?_
          refine x_if_ne k8_67 (t := 72) rfl ⟨by omega, by omega⟩ (fun c1799 => ?_) (fun c1799 => ?_)
          · skip
            refine x_A k8_72 (fun _ => rfl) ?_
            refine x_ldcR k8_73 (q := 2007) rfl ?_
            refine x_callV k8_75 (y := 53) (n := 1) (w0 := 0) (w1 := 1) (as := [.ref 2007]) (rest := []) (by decide +kernel) (q := 177) (nq := 7) (kq := 7) ⟨by decide, rfl⟩ rfl rfl rfl rfl (xe_mono (E_X6_isWord_177_2007 s hG i_TK) ?_)
            rintro s1801 v ⟨-, t_s1801, z1800, rfl, g_z1800, xp_z1800⟩
            rw [t_s1801.nil]
            try rw [t_s1801.nil] at xp_z1800
            show xe none 8 78 [(0, .ref 218), (1, .ref 177), (2, vi x2)] [vi z1800] s 0 0 _
            have sa := xp_z1800
            rw [w_1, show s 177 1 = s0 177 1 by omega, show s 177 3 = x1003 by omega] at sa
            refine x_if_eq k8_78 (t := 90) rfl ⟨by omega, by omega⟩ (fun c1802 => ?_) (fun c1802 => ?_)
            · skip
              refine x_A k8_90 (fun _ => rfl) ?_
              refine x_ldcR k8_91 (q := 2008) rfl ?_
              refine x_callV k8_93 (y := 53) (n := 1) (w0 := 0) (w1 := 1) (as := [.ref 2008]) (rest := []) (by decide +kernel) (q := 177) (nq := 7) (kq := 7) ⟨by decide, rfl⟩ rfl rfl rfl rfl (xe_mono (E_X6_isWord_177_2008 s hG i_TK) ?_)
              rintro s1804 v ⟨-, t_s1804, z1803, rfl, g_z1803, xp_z1803⟩
              rw [t_s1804.nil]
              try rw [t_s1804.nil] at xp_z1803
              show xe none 8 96 [(0, .ref 218), (1, .ref 177), (2, vi x2)] [vi z1803] s 0 0 _
              have so := xp_z1803
              rw [w_1, show s 177 1 = s0 177 1 by omega, show s 177 3 = x1003 by omega] at so
              refine x_if_eq k8_96 (t := 108) rfl ⟨by omega, by omega⟩ (fun c1805 => ?_) (fun c1805 => ?_)
              · skip
                refine x_A k8_108 (fun _ => rfl) ?_
                refine x_A k8_109 (fun _ => rfl) ?_
                refine x_A k8_110 (fun _ => rfl) ?_
                refine x_getI k8_111 (f := 3) rfl (q := 177) (n := 7) (kd := 7) ⟨by decide, rfl⟩ (by decide) rfl ?_
                refine x_rw (e_x1003.symm) ?_
                refine x_callV k8_114 (y := 52) (n := 2) (w0 := 0) (w1 := 2) (as := [vi 1, vi x1003]) (rest := []) (by decide +kernel) (q := 177) (nq := 7) (kq := 7) ⟨by decide, rfl⟩ rfl rfl rfl rfl (xe_mono (E_X6_fail_177 s hG 1 ⟨by omega, by omega⟩ x1003 ⟨by omega, by omega⟩) ?_)
                rintro s1807 v ⟨hG_s1807, t_s1807, rfl, xp_z1806⟩
                have f_s1807 : FL [2501, 2502, 2560, 2688, 2816, 1219, 1220, 1221, 1222, 1223] s0 s1807 := f.tr t_s1807 (by decide)
                have q1808 : s1807 218 5 = x1001 := (t_s1807 218 5 (show 2502 ∉ [1222, 1223] from by decide)).trans e_x1001.symm
                have q1809 : s1807 177 1 = x1002 := (t_s1807 177 1 (show 1218 ∉ [1222, 1223] from by decide)).trans e_x1002.symm
                have q1810 : s1807 177 3 = x1003 := (t_s1807 177 3 (show 1220 ∉ [1222, 1223] from by decide)).trans e_x1003.symm
                have q1811 : s1807 218 6 = x1004 := (t_s1807 218 6 (show 2503 ∉ [1222, 1223] from by decide)).trans e_x1004.symm
                have q1812 : s1807 177 4 = z1738 := (t_s1807 177 4 (show 1221 ∉ [1222, 1223] from by decide)).trans e_z1738.symm
                have q1813 : s1807 177 2 = z1740 := (t_s1807 177 2 (show 1219 ∉ [1222, 1223] from by decide)).trans e_z1740.symm
                have TK_s1807 : TKs s1807 := TKs.fl i_TK t_s1807 (by decide)
                have KF_s1807 : KF s1807 s0 := KF.fl w_8 t_s1807 (by decide)
                obtain ⟨z1814, e_z1814⟩ : ∃ z, z = s1807 177 5 := ⟨_, rfl⟩
                have g_z1814 : (0 : Int) ≤ s1807 177 5 ∧ s1807 177 5 ≤ 5 := hG_s1807 177 5
                obtain ⟨z1815, e_z1815⟩ : ∃ z, z = s1807 177 6 := ⟨_, rfl⟩
                have g_z1815 : (-2147483648) ≤ s1807 177 6 ∧ s1807 177 6 ≤ 2147483647 := hG_s1807 177 6
                show xe none 8 117 [(0, .ref 218), (1, .ref 177), (2, vi x2)] [] s1807 0 0 _
                refine x_A k8_117 (fun _ => rfl) ?_
                refine x_getI k8_118 (f := 5) rfl (q := 177) (n := 7) (kd := 7) ⟨by decide, rfl⟩ (by decide) rfl ?_
                refine x_rw (e_z1814.symm) ?_
                refine x_if_eq k8_121 (t := 126) rfl ⟨by omega, by omega⟩ (fun c1816 => by exfalso; omega) (fun c1816 => ?_)
                refine x_A k8_124 (fun _ => rfl) ?_
                exact x_zret k8_125 rfl ⟨by omega, by omega⟩ ⟨hG_s1807, f_s1807, 0, rfl, ⟨by omega, by omega⟩, ⟨Or.inr ⟨rfl, Or.inr ⟨by omega, by rw [show s1807 177 5 = 1 by omega, show s1807 177 6 = x1003 by omega]; exact (w_2 (by omega)).bad ⟨by omega, by omega⟩ (by omega) (by have kc := kd_cs (T := s0 178) (n := s0 177 1) (p := x1003); omega)⟩⟩, KF_s1807, fun hz => by exfalso; omega, fun hz h0 => by exfalso; omega⟩, TK_s1807⟩
              · skip
                refine x_A k8_99 (fun _ => rfl) ?_
                refine x_bipush k8_100 (by decide +kernel) ?_
                refine x_callV k8_102 (y := 10) (n := 1) (w0 := 0) (w1 := 1) (as := [vi 7]) (rest := []) (by decide +kernel) (q := 218) (nq := 7) (kq := 11) ⟨by decide, rfl⟩ rfl rfl rfl rfl (xe_mono (W_X0_joinBy_218 s hG 7 ⟨by omega, by omega⟩ ⟨by omega, by omega⟩) ?_)
                rintro s1818 v ⟨hG_s1818, t_s1818, rfl, xp_z1817⟩
                have f_s1818 : FL [2501, 2502, 2560, 2688, 2816, 1219, 1220, 1221, 1222, 1223] s0 s1818 := f.tr t_s1818 (by decide)
                have q1819 : s1818 177 5 = x1000 := (t_s1818 177 5 (show 1222 ∉ [2501, 2560, 2688, 2816] from by decide)).trans e_x1000.symm
                have q1820 : s1818 218 5 = x1001 := (t_s1818 218 5 (show 2502 ∉ [2501, 2560, 2688, 2816] from by decide)).trans e_x1001.symm
                have q1821 : s1818 177 1 = x1002 := (t_s1818 177 1 (show 1218 ∉ [2501, 2560, 2688, 2816] from by decide)).trans e_x1002.symm
                have q1822 : s1818 177 3 = x1003 := (t_s1818 177 3 (show 1220 ∉ [2501, 2560, 2688, 2816] from by decide)).trans e_x1003.symm
                have q1823 : s1818 218 6 = x1004 := (t_s1818 218 6 (show 2503 ∉ [2501, 2560, 2688, 2816] from by decide)).trans e_x1004.symm
                have q1824 : s1818 177 4 = z1738 := (t_s1818 177 4 (show 1221 ∉ [2501, 2560, 2688, 2816] from by decide)).trans e_z1738.symm
                have q1825 : s1818 177 6 = z1739 := (t_s1818 177 6 (show 1223 ∉ [2501, 2560, 2688, 2816] from by decide)).trans e_z1739.symm
                have q1826 : s1818 177 2 = z1740 := (t_s1818 177 2 (show 1219 ∉ [2501, 2560, 2688, 2816] from by decide)).trans e_z1740.symm
                have TK_s1818 : TKs s1818 := TKs.fl i_TK t_s1818 (by decide)
                show xe none 8 105 [(0, .ref 218), (1, .ref 177), (2, vi x2)] [] s1818 0 0 _
                have KF_j : KF s1818 s0 := w_8.tr (by omega) xp_z1817.1
                refine x_goto k8_105 (t := 117) rfl ?_
                refine x_A k8_117 (fun _ => rfl) ?_
                refine x_getI k8_118 (f := 5) rfl (q := 177) (n := 7) (kd := 7) ⟨by decide, rfl⟩ (by decide) rfl ?_
                refine x_rw (q1819) ?_
                refine x_if_eq k8_121 (t := 126) rfl ⟨by omega, by omega⟩ (fun c1827 => ?_) (fun c1827 => by exfalso; omega)
                refine x_A k8_126 (fun _ => rfl) ?_
                refine x_callV k8_127 (y := 51) (n := 0) (w0 := 0) (w1 := 0) (as := []) (rest := []) (by decide +kernel) (q := 177) (nq := 7) (kq := 7) ⟨by decide, rfl⟩ rfl rfl rfl rfl (xe_mono (E_X6_advance_177 s1818 hG_s1818 (by omega)) ?_)
                rintro s1829 v ⟨hG_s1829, t_s1829, rfl, xp_z1828⟩
                have f_s1829 : FL [2501, 2502, 2560, 2688, 2816, 1219, 1220, 1221, 1222, 1223] s0 s1829 := f_s1818.tr t_s1829 (by decide)
                have q1830 : s1829 177 5 = x1000 := (t_s1829 177 5 (show 1222 ∉ [1219, 1220, 1221] from by decide)).trans q1819
                have q1831 : s1829 218 5 = x1001 := (t_s1829 218 5 (show 2502 ∉ [1219, 1220, 1221] from by decide)).trans q1820
                have q1832 : s1829 177 1 = x1002 := (t_s1829 177 1 (show 1218 ∉ [1219, 1220, 1221] from by decide)).trans q1821
                have q1833 : s1829 218 6 = x1004 := (t_s1829 218 6 (show 2503 ∉ [1219, 1220, 1221] from by decide)).trans q1823
                have q1834 : s1829 177 6 = z1739 := (t_s1829 177 6 (show 1223 ∉ [1219, 1220, 1221] from by decide)).trans q1825
                have KF_s1829 : KF s1829 s0 := KF.fl KF_j t_s1829 (by decide)
                show xe none 8 130 [(0, .ref 218), (1, .ref 177), (2, vi x2)] [] s1829 0 0 _
                have tq1835 := xp_z1828
                rw [show s1818 178 = s0 178 from funext fun i => f_s1818 178 i (show 1280 ∉ [2501, 2502, 2560, 2688, 2816, 1219, 1220, 1221, 1222, 1223] from by decide), show s1818 177 1 = s0 177 1 from f_s1818 177 1 (show 1218 ∉ [2501, 2502, 2560, 2688, 2816, 1219, 1220, 1221, 1222, 1223] from by decide), show s1818 177 4 = te (s0 178) (s0 177 1) x1003 by omega] at tq1835
                have TK_s1829 : TKs s1829 := TK.s tq1835 (show s1829 178 = s0 178 from funext fun i => f_s1829 178 i (show 1280 ∉ [2501, 2502, 2560, 2688, 2816, 1219, 1220, 1221, 1222, 1223] from by decide)) (by omega)
                have nq : s1829 177 3 = nx (s0 178) (s0 177 1) x1003 := tq1835.2.2.1
                have nr : nx (s0 178) (s0 177 1) x1003 = sk (s0 178) (s0 177 1) (te (s0 178) (s0 177 1) x1003) := rfl
                obtain ⟨z1836, e_z1836⟩ : ∃ z, z = s1829 177 3 := ⟨_, rfl⟩
                have g_z1836 : (0 : Int) ≤ s1829 177 3 ∧ s1829 177 3 ≤ 160 := hG_s1829 177 3
                unfold TK at tq1835
                refine x_A k8_130 (fun _ => rfl) ?_
                exact x_zret k8_131 rfl ⟨by omega, by omega⟩ ⟨hG_s1829, f_s1829, 1, rfl, ⟨by omega, by omega⟩, ⟨Or.inl ⟨rfl, by omega, by rw [show s1829 218 5 = x1001 by omega, show s1829 177 3 = nx (s0 178) (s0 177 1) x1003 by omega]; exact (w_2 (by omega)).jn (by omega), ⟨by omega, by omega⟩, by omega, by omega⟩, KF_s1829, fun _ y => by rw [show s1829 218 5 = x1001 by omega, show s1829 177 3 = nx (s0 178) (s0 177 1) x1003 by omega]; exact ((w_9 (by omega) y).jn ⟨by omega, by omega⟩ (by omega) xp_z1817).fl t_s1829 ⟨by omega, by omega⟩ (by decide), fun hz => by exfalso; omega⟩, TK_s1829⟩
            · skip
              refine x_A k8_81 (fun _ => rfl) ?_
              refine x_bipush k8_82 (by decide +kernel) ?_
              refine x_callV k8_84 (y := 10) (n := 1) (w0 := 0) (w1 := 1) (as := [vi 8]) (rest := []) (by decide +kernel) (q := 218) (nq := 7) (kq := 11) ⟨by decide, rfl⟩ rfl rfl rfl rfl (xe_mono (W_X0_joinBy_218 s hG 8 ⟨by omega, by omega⟩ ⟨by omega, by omega⟩) ?_)
              rintro s1838 v ⟨hG_s1838, t_s1838, rfl, xp_z1837⟩
              have f_s1838 : FL [2501, 2502, 2560, 2688, 2816, 1219, 1220, 1221, 1222, 1223] s0 s1838 := f.tr t_s1838 (by decide)
              have q1839 : s1838 177 5 = x1000 := (t_s1838 177 5 (show 1222 ∉ [2501, 2560, 2688, 2816] from by decide)).trans e_x1000.symm
              have q1840 : s1838 218 5 = x1001 := (t_s1838 218 5 (show 2502 ∉ [2501, 2560, 2688, 2816] from by decide)).trans e_x1001.symm
              have q1841 : s1838 177 1 = x1002 := (t_s1838 177 1 (show 1218 ∉ [2501, 2560, 2688, 2816] from by decide)).trans e_x1002.symm
              have q1842 : s1838 177 3 = x1003 := (t_s1838 177 3 (show 1220 ∉ [2501, 2560, 2688, 2816] from by decide)).trans e_x1003.symm
              have q1843 : s1838 218 6 = x1004 := (t_s1838 218 6 (show 2503 ∉ [2501, 2560, 2688, 2816] from by decide)).trans e_x1004.symm
              have q1844 : s1838 177 4 = z1738 := (t_s1838 177 4 (show 1221 ∉ [2501, 2560, 2688, 2816] from by decide)).trans e_z1738.symm
              have q1845 : s1838 177 6 = z1739 := (t_s1838 177 6 (show 1223 ∉ [2501, 2560, 2688, 2816] from by decide)).trans e_z1739.symm
              have q1846 : s1838 177 2 = z1740 := (t_s1838 177 2 (show 1219 ∉ [2501, 2560, 2688, 2816] from by decide)).trans e_z1740.symm
              have TK_s1838 : TKs s1838 := TKs.fl i_TK t_s1838 (by decide)
              show xe none 8 87 [(0, .ref 218), (1, .ref 177), (2, vi x2)] [] s1838 0 0 _
              have KF_j : KF s1838 s0 := w_8.tr (by omega) xp_z1837.1
              refine x_goto k8_87 (t := 117) rfl ?_
              refine x_A k8_117 (fun _ => rfl) ?_
              refine x_getI k8_118 (f := 5) rfl (q := 177) (n := 7) (kd := 7) ⟨by decide, rfl⟩ (by decide) rfl ?_
              refine x_rw (q1839) ?_
              refine x_if_eq k8_121 (t := 126) rfl ⟨by omega, by omega⟩ (fun c1847 => ?_) (fun c1847 => by exfalso; omega)
              refine x_A k8_126 (fun _ => rfl) ?_
              refine x_callV k8_127 (y := 51) (n := 0) (w0 := 0) (w1 := 0) (as := []) (rest := []) (by decide +kernel) (q := 177) (nq := 7) (kq := 7) ⟨by decide, rfl⟩ rfl rfl rfl rfl (xe_mono (E_X6_advance_177 s1838 hG_s1838 (by omega)) ?_)
              rintro s1849 v ⟨hG_s1849, t_s1849, rfl, xp_z1848⟩
              have f_s1849 : FL [2501, 2502, 2560, 2688, 2816, 1219, 1220, 1221, 1222, 1223] s0 s1849 := f_s1838.tr t_s1849 (by decide)
              have q1850 : s1849 177 5 = x1000 := (t_s1849 177 5 (show 1222 ∉ [1219, 1220, 1221] from by decide)).trans q1839
              have q1851 : s1849 218 5 = x1001 := (t_s1849 218 5 (show 2502 ∉ [1219, 1220, 1221] from by decide)).trans q1840
              have q1852 : s1849 177 1 = x1002 := (t_s1849 177 1 (show 1218 ∉ [1219, 1220, 1221] from by decide)).trans q1841
              have q1853 : s1849 218 6 = x1004 := (t_s1849 218 6 (show 2503 ∉ [1219, 1220, 1221] from by decide)).trans q1843
              have q1854 : s1849 177 6 = z1739 := (t_s1849 177 6 (show 1223 ∉ [1219, 1220, 1221] from by decide)).trans q1845
              have KF_s1849 : KF s1849 s0 := KF.fl KF_j t_s1849 (by decide)
              show xe none 8 130 [(0, .ref 218), (1, .ref 177), (2, vi x2)] [] s1849 0 0 _
              have tq1855 := xp_z1848
              rw [show s1838 178 = s0 178 from funext fun i => f_s1838 178 i (show 1280 ∉ [2501, 2502, 2560, 2688, 2816, 1219, 1220, 1221, 1222, 1223] from by decide), show s1838 177 1 = s0 177 1 from f_s1838 177 1 (show 1218 ∉ [2501, 2502, 2560, 2688, 2816, 1219, 1220, 1221, 1222, 1223] from by decide), show s1838 177 4 = te (s0 178) (s0 177 1) x1003 by omega] at tq1855
              have TK_s1849 : TKs s1849 := TK.s tq1855 (show s1849 178 = s0 178 from funext fun i => f_s1849 178 i (show 1280 ∉ [2501, 2502, 2560, 2688, 2816, 1219, 1220, 1221, 1222, 1223] from by decide)) (by omega)
              have nq : s1849 177 3 = nx (s0 178) (s0 177 1) x1003 := tq1855.2.2.1
              have nr : nx (s0 178) (s0 177 1) x1003 = sk (s0 178) (s0 177 1) (te (s0 178) (s0 177 1) x1003) := rfl
              obtain ⟨z1856, e_z1856⟩ : ∃ z, z = s1849 177 3 := ⟨_, rfl⟩
              have g_z1856 : (0 : Int) ≤ s1849 177 3 ∧ s1849 177 3 ≤ 160 := hG_s1849 177 3
              unfold TK at tq1855
              refine x_A k8_130 (fun _ => rfl) ?_
              exact x_zret k8_131 rfl ⟨by omega, by omega⟩ ⟨hG_s1849, f_s1849, 1, rfl, ⟨by omega, by omega⟩, ⟨Or.inl ⟨rfl, by omega, by rw [show s1849 218 5 = x1001 by omega, show s1849 177 3 = nx (s0 178) (s0 177 1) x1003 by omega]; exact (w_2 (by omega)).jn (by omega), ⟨by omega, by omega⟩, by omega, by omega⟩, KF_s1849, fun _ y => by rw [show s1849 218 5 = x1001 by omega, show s1849 177 3 = nx (s0 178) (s0 177 1) x1003 by omega]; exact ((w_9 (by omega) y).jn ⟨by omega, by omega⟩ (by omega) xp_z1837).fl t_s1849 ⟨by omega, by omega⟩ (by decide), fun hz => by exfalso; omega⟩, TK_s1849⟩
          · skip
            refine x_A k8_70 (fun _ => rfl) ?_
            exact x_zret k8_71 rfl ⟨by omega, by omega⟩ ⟨hG, f, 0, rfl, ⟨by omega, by omega⟩, ⟨Or.inr ⟨rfl, Or.inl ⟨by omega, (w_2 (by omega)).fin (by omega) (by have kc := kd_cs (T := s0 178) (n := s0 177 1) (p := x1003); omega)⟩⟩, w_8, fun hz => by exfalso; omega, fun hz h0 => ⟨by omega, fun y => (w_9 (by omega) y).fin ⟨by omega, by omega⟩ (by omega) (by have kc := kd_cs (T := s0 178) (n := s0 177 1) (p := x1003); omega)⟩⟩, i_TK⟩
      · skip
        refine x_A k8_54 (fun _ => rfl) ?_
        obtain ⟨z1857, e_z1857⟩ : ∃ z, z = s 177 6 := ⟨_, rfl⟩
        have g_z1857 : (-2147483648) ≤ s 177 6 ∧ s 177 6 ≤ 2147483647 := hG 177 6
        exact x_zret k8_55 rfl ⟨by omega, by omega⟩ ⟨hG, f, 0, rfl, ⟨by omega, by omega⟩, ⟨Or.inr ⟨rfl, Or.inr ⟨by omega, by rw [show s 177 5 = x1000 by omega]; exact w_3 (by omega)⟩⟩, w_8, fun hz => by exfalso; omega, fun hz h0 => by exfalso; omega⟩, i_TK⟩
    · skip
      refine x_A k8_7 (fun _ => rfl) ?_
      refine x_getI k8_8 (f := 5) rfl (q := 177) (n := 7) (kd := 7) ⟨by decide, rfl⟩ (by decide) rfl ?_
      refine x_rw (e_x1000.symm) ?_
      refine x_if_ne k8_11 (t := 47) rfl ⟨by omega, by omega⟩ (fun c1858 => ?_) (fun c1858 => ?_)
      · skip
        refine x_A k8_47 (fun _ => rfl) ?_
        refine x_getI k8_48 (f := 5) rfl (q := 177) (n := 7) (kd := 7) ⟨by decide, rfl⟩ (by decide) rfl ?_
        refine x_rw (e_x1000.symm) ?_
        refine x_if_eq k8_51 (t := 56) rfl ⟨by omega, by omega⟩ (fun c1859 => by exfalso; omega) (fun c1859 => ?_)
        refine x_A k8_54 (fun _ => rfl) ?_
        obtain ⟨z1860, e_z1860⟩ : ∃ z, z = s 177 6 := ⟨_, rfl⟩
        have g_z1860 : (-2147483648) ≤ s 177 6 ∧ s 177 6 ≤ 2147483647 := hG 177 6
        exact x_zret k8_55 rfl ⟨by omega, by omega⟩ ⟨hG, f, 0, rfl, ⟨by omega, by omega⟩, ⟨Or.inr ⟨rfl, Or.inr ⟨by omega, by rw [show s 177 5 = x1000 by omega]; exact w_3 (by omega)⟩⟩, w_8, fun hz => by exfalso; omega, fun hz h0 => by exfalso; omega⟩, i_TK⟩
      · skip
        have tkL := i_TK
        unfold TKs TK at tkL
        rw [w_1, show s 177 1 = s0 177 1 by omega, show s 177 3 = x1003 by omega] at tkL
        have tlL := te_le (T := s0 178) (n := s0 177 1) (p := x1003)
        have slL := sk_le (T := s0 178) (n := s0 177 1) (p := te (s0 178) (s0 177 1) x1003)
        obtain ⟨z1861, e_z1861⟩ : ∃ z, z = s 177 4 := ⟨_, rfl⟩
        have g_z1861 : (0 : Int) ≤ s 177 4 ∧ s 177 4 ≤ 160 := hG 177 4
        obtain ⟨z1862, e_z1862⟩ : ∃ z, z = s 177 6 := ⟨_, rfl⟩
        have g_z1862 : (-2147483648) ≤ s 177 6 ∧ s 177 6 ≤ 2147483647 := hG 177 6
        refine x_A k8_14 (fun _ => rfl) ?_
        refine x_bipush k8_15 (by decide +kernel) ?_
        refine x_callV k8_17 (y := 54) (n := 1) (w0 := 0) (w1 := 1) (as := [vi 41]) (rest := []) (by decide +kernel) (q := 177) (nq := 7) (kq := 7) ⟨by decide, rfl⟩ rfl rfl rfl rfl (xe_mono (E_X6_isSign_177 s hG 41 ⟨by omega, by omega⟩ (by omega) i_TK) ?_)
        rintro s1864 v ⟨-, t_s1864, z1863, rfl, g_z1863, xp_z1863⟩
        rw [t_s1864.nil]
        try rw [t_s1864.nil] at xp_z1863
        show xe none 8 20 [(0, .ref 218), (1, .ref 177), (2, vi x2)] [vi z1863] s 0 0 _
        have sg := xp_z1863
        rw [w_1, show s 177 1 = s0 177 1 by omega, show s 177 3 = x1003 by omega] at sg
        refine x_if_eq k8_20 (t := 47) rfl ⟨by omega, by omega⟩ (fun c1865 => ?_) (fun c1865 => ?_)
        · skip
          refine x_A k8_47 (fun _ => rfl) ?_
          refine x_getI k8_48 (f := 5) rfl (q := 177) (n := 7) (kd := 7) ⟨by decide, rfl⟩ (by decide) rfl ?_
          refine x_rw (e_x1000.symm) ?_
          refine x_if_eq k8_51 (t := 56) rfl ⟨by omega, by omega⟩ (fun c1866 => ?_) (fun c1866 => by exfalso; omega)
          refine x_A k8_56 (fun _ => rfl) ?_
          refine x_getI k8_57 (f := 2) rfl (q := 177) (n := 7) (kd := 7) ⟨by decide, rfl⟩ (by decide) rfl ?_
          refine x_top (fun z1867 e_z1867 => ?_)
          have g_z1867 : (0 : Int) ≤ s 177 2 ∧ s 177 2 ≤ 3 := hG 177 2
          refine x_if_ne k8_60 (t := 72) rfl ⟨by omega, by omega⟩ (fun c1868 => ?_) (fun c1868 => ?_)
          · skip
            refine x_A k8_72 (fun _ => rfl) ?_
            refine x_ldcR k8_73 (q := 2007) rfl ?_
            refine x_callV k8_75 (y := 53) (n := 1) (w0 := 0) (w1 := 1) (as := [.ref 2007]) (rest := []) (by decide +kernel) (q := 177) (nq := 7) (kq := 7) ⟨by decide, rfl⟩ rfl rfl rfl rfl (xe_mono (E_X6_isWord_177_2007 s hG i_TK) ?_)
            rintro s1870 v ⟨-, t_s1870, z1869, rfl, g_z1869, xp_z1869⟩
            rw [t_s1870.nil]
            try rw [t_s1870.nil] at xp_z1869
            show xe none 8 78 [(0, .ref 218), (1, .ref 177), (2, vi x2)] [vi z1869] s 0 0 _
            have sa := xp_z1869
            rw [w_1, show s 177 1 = s0 177 1 by omega, show s 177 3 = x1003 by omega] at sa
            refine x_if_eq k8_78 (t := 90) rfl ⟨by omega, by omega⟩ (fun c1871 => ?_) (fun c1871 => ?_)
            · skip
              refine x_A k8_90 (fun _ => rfl) ?_
              refine x_ldcR k8_91 (q := 2008) rfl ?_
              refine x_callV k8_93 (y := 53) (n := 1) (w0 := 0) (w1 := 1) (as := [.ref 2008]) (rest := []) (by decide +kernel) (q := 177) (nq := 7) (kq := 7) ⟨by decide, rfl⟩ rfl rfl rfl rfl (xe_mono (E_X6_isWord_177_2008 s hG i_TK) ?_)
              rintro s1873 v ⟨-, t_s1873, z1872, rfl, g_z1872, xp_z1872⟩
              rw [t_s1873.nil]
              try rw [t_s1873.nil] at xp_z1872
              show xe none 8 96 [(0, .ref 218), (1, .ref 177), (2, vi x2)] [vi z1872] s 0 0 _
              have so := xp_z1872
              rw [w_1, show s 177 1 = s0 177 1 by omega, show s 177 3 = x1003 by omega] at so
              refine x_if_eq k8_96 (t := 108) rfl ⟨by omega, by omega⟩ (fun c1874 => ?_) (fun c1874 => ?_)
              · skip
                refine x_A k8_108 (fun _ => rfl) ?_
                refine x_A k8_109 (fun _ => rfl) ?_
                refine x_A k8_110 (fun _ => rfl) ?_
                refine x_getI k8_111 (f := 3) rfl (q := 177) (n := 7) (kd := 7) ⟨by decide, rfl⟩ (by decide) rfl ?_
                refine x_rw (e_x1003.symm) ?_
                refine x_callV k8_114 (y := 52) (n := 2) (w0 := 0) (w1 := 2) (as := [vi 1, vi x1003]) (rest := []) (by decide +kernel) (q := 177) (nq := 7) (kq := 7) ⟨by decide, rfl⟩ rfl rfl rfl rfl (xe_mono (E_X6_fail_177 s hG 1 ⟨by omega, by omega⟩ x1003 ⟨by omega, by omega⟩) ?_)
                rintro s1876 v ⟨hG_s1876, t_s1876, rfl, xp_z1875⟩
                have f_s1876 : FL [2501, 2502, 2560, 2688, 2816, 1219, 1220, 1221, 1222, 1223] s0 s1876 := f.tr t_s1876 (by decide)
                have q1877 : s1876 218 5 = x1001 := (t_s1876 218 5 (show 2502 ∉ [1222, 1223] from by decide)).trans e_x1001.symm
                have q1878 : s1876 177 1 = x1002 := (t_s1876 177 1 (show 1218 ∉ [1222, 1223] from by decide)).trans e_x1002.symm
                have q1879 : s1876 177 3 = x1003 := (t_s1876 177 3 (show 1220 ∉ [1222, 1223] from by decide)).trans e_x1003.symm
                have q1880 : s1876 218 6 = x1004 := (t_s1876 218 6 (show 2503 ∉ [1222, 1223] from by decide)).trans e_x1004.symm
                have q1881 : s1876 177 4 = z1861 := (t_s1876 177 4 (show 1221 ∉ [1222, 1223] from by decide)).trans e_z1861.symm
                have q1882 : s1876 177 2 = z1867 := (t_s1876 177 2 (show 1219 ∉ [1222, 1223] from by decide)).trans e_z1867.symm
                have TK_s1876 : TKs s1876 := TKs.fl i_TK t_s1876 (by decide)
                have KF_s1876 : KF s1876 s0 := KF.fl w_8 t_s1876 (by decide)
                obtain ⟨z1883, e_z1883⟩ : ∃ z, z = s1876 177 5 := ⟨_, rfl⟩
                have g_z1883 : (0 : Int) ≤ s1876 177 5 ∧ s1876 177 5 ≤ 5 := hG_s1876 177 5
                obtain ⟨z1884, e_z1884⟩ : ∃ z, z = s1876 177 6 := ⟨_, rfl⟩
                have g_z1884 : (-2147483648) ≤ s1876 177 6 ∧ s1876 177 6 ≤ 2147483647 := hG_s1876 177 6
                show xe none 8 117 [(0, .ref 218), (1, .ref 177), (2, vi x2)] [] s1876 0 0 _
                refine x_A k8_117 (fun _ => rfl) ?_
                refine x_getI k8_118 (f := 5) rfl (q := 177) (n := 7) (kd := 7) ⟨by decide, rfl⟩ (by decide) rfl ?_
                refine x_rw (e_z1883.symm) ?_
                refine x_if_eq k8_121 (t := 126) rfl ⟨by omega, by omega⟩ (fun c1885 => by exfalso; omega) (fun c1885 => ?_)
                refine x_A k8_124 (fun _ => rfl) ?_
                exact x_zret k8_125 rfl ⟨by omega, by omega⟩ ⟨hG_s1876, f_s1876, 0, rfl, ⟨by omega, by omega⟩, ⟨Or.inr ⟨rfl, Or.inr ⟨by omega, by rw [show s1876 177 5 = 1 by omega, show s1876 177 6 = x1003 by omega]; exact (w_2 (by omega)).bad ⟨by omega, by omega⟩ (by omega) (by have kc := kd_cs (T := s0 178) (n := s0 177 1) (p := x1003); omega)⟩⟩, KF_s1876, fun hz => by exfalso; omega, fun hz h0 => by exfalso; omega⟩, TK_s1876⟩
              · skip
                refine x_A k8_99 (fun _ => rfl) ?_
                refine x_bipush k8_100 (by decide +kernel) ?_
                refine x_callV k8_102 (y := 10) (n := 1) (w0 := 0) (w1 := 1) (as := [vi 7]) (rest := []) (by decide +kernel) (q := 218) (nq := 7) (kq := 11) ⟨by decide, rfl⟩ rfl rfl rfl rfl (xe_mono (W_X0_joinBy_218 s hG 7 ⟨by omega, by omega⟩ ⟨by omega, by omega⟩) ?_)
                rintro s1887 v ⟨hG_s1887, t_s1887, rfl, xp_z1886⟩
                have f_s1887 : FL [2501, 2502, 2560, 2688, 2816, 1219, 1220, 1221, 1222, 1223] s0 s1887 := f.tr t_s1887 (by decide)
                have q1888 : s1887 177 5 = x1000 := (t_s1887 177 5 (show 1222 ∉ [2501, 2560, 2688, 2816] from by decide)).trans e_x1000.symm
                have q1889 : s1887 218 5 = x1001 := (t_s1887 218 5 (show 2502 ∉ [2501, 2560, 2688, 2816] from by decide)).trans e_x1001.symm
                have q1890 : s1887 177 1 = x1002 := (t_s1887 177 1 (show 1218 ∉ [2501, 2560, 2688, 2816] from by decide)).trans e_x1002.symm
                have q1891 : s1887 177 3 = x1003 := (t_s1887 177 3 (show 1220 ∉ [2501, 2560, 2688, 2816] from by decide)).trans e_x1003.symm
                have q1892 : s1887 218 6 = x1004 := (t_s1887 218 6 (show 2503 ∉ [2501, 2560, 2688, 2816] from by decide)).trans e_x1004.symm
                have q1893 : s1887 177 4 = z1861 := (t_s1887 177 4 (show 1221 ∉ [2501, 2560, 2688, 2816] from by decide)).trans e_z1861.symm
                have q1894 : s1887 177 6 = z1862 := (t_s1887 177 6 (show 1223 ∉ [2501, 2560, 2688, 2816] from by decide)).trans e_z1862.symm
                have q1895 : s1887 177 2 = z1867 := (t_s1887 177 2 (show 1219 ∉ [2501, 2560, 2688, 2816] from by decide)).trans e_z1867.symm
                have TK_s1887 : TKs s1887 := TKs.fl i_TK t_s1887 (by decide)
                show xe none 8 105 [(0, .ref 218), (1, .ref 177), (2, vi x2)] [] s1887 0 0 _
                have KF_j : KF s1887 s0 := w_8.tr (by omega) xp_z1886.1
                refine x_goto k8_105 (t := 117) rfl ?_
                refine x_A k8_117 (fun _ => rfl) ?_
                refine x_getI k8_118 (f := 5) rfl (q := 177) (n := 7) (kd := 7) ⟨by decide, rfl⟩ (by decide) rfl ?_
                refine x_rw (q1888) ?_
                refine x_if_eq k8_121 (t := 126) rfl ⟨by omega, by omega⟩ (fun c1896 => ?_) (fun c1896 => by exfalso; omega)
                refine x_A k8_126 (fun _ => rfl) ?_
                refine x_callV k8_127 (y := 51) (n := 0) (w0 := 0) (w1 := 0) (as := []) (rest := []) (by decide +kernel) (q := 177) (nq := 7) (kq := 7) ⟨by decide, rfl⟩ rfl rfl rfl rfl (xe_mono (E_X6_advance_177 s1887 hG_s1887 (by omega)) ?_)
                rintro s1898 v ⟨hG_s1898, t_s1898, rfl, xp_z1897⟩
                have f_s1898 : FL [2501, 2502, 2560, 2688, 2816, 1219, 1220, 1221, 1222, 1223] s0 s1898 := f_s1887.tr t_s1898 (by decide)
                have q1899 : s1898 177 5 = x1000 := (t_s1898 177 5 (show 1222 ∉ [1219, 1220, 1221] from by decide)).trans q1888
                have q1900 : s1898 218 5 = x1001 := (t_s1898 218 5 (show 2502 ∉ [1219, 1220, 1221] from by decide)).trans q1889
                have q1901 : s1898 177 1 = x1002 := (t_s1898 177 1 (show 1218 ∉ [1219, 1220, 1221] from by decide)).trans q1890
                have q1902 : s1898 218 6 = x1004 := (t_s1898 218 6 (show 2503 ∉ [1219, 1220, 1221] from by decide)).trans q1892
                have q1903 : s1898 177 6 = z1862 := (t_s1898 177 6 (show 1223 ∉ [1219, 1220, 1221] from by decide)).trans q1894
                have KF_s1898 : KF s1898 s0 := KF.fl KF_j t_s1898 (by decide)
                show xe none 8 130 [(0, .ref 218), (1, .ref 177), (2, vi x2)] [] s1898 0 0 _
                have tq1904 := xp_z1897
                rw [show s1887 178 = s0 178 from funext fun i => f_s1887 178 i (show 1280 ∉ [2501, 2502, 2560, 2688, 2816, 1219, 1220, 1221, 1222, 1223] from by decide), show s1887 177 1 = s0 177 1 from f_s1887 177 1 (show 1218 ∉ [2501, 2502, 2560, 2688, 2816, 1219, 1220, 1221, 1222, 1223] from by decide), show s1887 177 4 = te (s0 178) (s0 177 1) x1003 by omega] at tq1904
                have TK_s1898 : TKs s1898 := TK.s tq1904 (show s1898 178 = s0 178 from funext fun i => f_s1898 178 i (show 1280 ∉ [2501, 2502, 2560, 2688, 2816, 1219, 1220, 1221, 1222, 1223] from by decide)) (by omega)
                have nq : s1898 177 3 = nx (s0 178) (s0 177 1) x1003 := tq1904.2.2.1
                have nr : nx (s0 178) (s0 177 1) x1003 = sk (s0 178) (s0 177 1) (te (s0 178) (s0 177 1) x1003) := rfl
                obtain ⟨z1905, e_z1905⟩ : ∃ z, z = s1898 177 3 := ⟨_, rfl⟩
                have g_z1905 : (0 : Int) ≤ s1898 177 3 ∧ s1898 177 3 ≤ 160 := hG_s1898 177 3
                unfold TK at tq1904
                refine x_A k8_130 (fun _ => rfl) ?_
                exact x_zret k8_131 rfl ⟨by omega, by omega⟩ ⟨hG_s1898, f_s1898, 1, rfl, ⟨by omega, by omega⟩, ⟨Or.inl ⟨rfl, by omega, by rw [show s1898 218 5 = x1001 by omega, show s1898 177 3 = nx (s0 178) (s0 177 1) x1003 by omega]; exact (w_2 (by omega)).jn (by omega), ⟨by omega, by omega⟩, by omega, by omega⟩, KF_s1898, fun _ y => by rw [show s1898 218 5 = x1001 by omega, show s1898 177 3 = nx (s0 178) (s0 177 1) x1003 by omega]; exact ((w_9 (by omega) y).jn ⟨by omega, by omega⟩ (by omega) xp_z1886).fl t_s1898 ⟨by omega, by omega⟩ (by decide), fun hz => by exfalso; omega⟩, TK_s1898⟩
            · skip
              refine x_A k8_81 (fun _ => rfl) ?_
              refine x_bipush k8_82 (by decide +kernel) ?_
              refine x_callV k8_84 (y := 10) (n := 1) (w0 := 0) (w1 := 1) (as := [vi 8]) (rest := []) (by decide +kernel) (q := 218) (nq := 7) (kq := 11) ⟨by decide, rfl⟩ rfl rfl rfl rfl (xe_mono (W_X0_joinBy_218 s hG 8 ⟨by omega, by omega⟩ ⟨by omega, by omega⟩) ?_)
              rintro s1907 v ⟨hG_s1907, t_s1907, rfl, xp_z1906⟩
              have f_s1907 : FL [2501, 2502, 2560, 2688, 2816, 1219, 1220, 1221, 1222, 1223] s0 s1907 := f.tr t_s1907 (by decide)
              have q1908 : s1907 177 5 = x1000 := (t_s1907 177 5 (show 1222 ∉ [2501, 2560, 2688, 2816] from by decide)).trans e_x1000.symm
              have q1909 : s1907 218 5 = x1001 := (t_s1907 218 5 (show 2502 ∉ [2501, 2560, 2688, 2816] from by decide)).trans e_x1001.symm
              have q1910 : s1907 177 1 = x1002 := (t_s1907 177 1 (show 1218 ∉ [2501, 2560, 2688, 2816] from by decide)).trans e_x1002.symm
              have q1911 : s1907 177 3 = x1003 := (t_s1907 177 3 (show 1220 ∉ [2501, 2560, 2688, 2816] from by decide)).trans e_x1003.symm
              have q1912 : s1907 218 6 = x1004 := (t_s1907 218 6 (show 2503 ∉ [2501, 2560, 2688, 2816] from by decide)).trans e_x1004.symm
              have q1913 : s1907 177 4 = z1861 := (t_s1907 177 4 (show 1221 ∉ [2501, 2560, 2688, 2816] from by decide)).trans e_z1861.symm
              have q1914 : s1907 177 6 = z1862 := (t_s1907 177 6 (show 1223 ∉ [2501, 2560, 2688, 2816] from by decide)).trans e_z1862.symm
              have q1915 : s1907 177 2 = z1867 := (t_s1907 177 2 (show 1219 ∉ [2501, 2560, 2688, 2816] from by decide)).trans e_z1867.symm
              have TK_s1907 : TKs s1907 := TKs.fl i_TK t_s1907 (by decide)
              show xe none 8 87 [(0, .ref 218), (1, .ref 177), (2, vi x2)] [] s1907 0 0 _
              have KF_j : KF s1907 s0 := w_8.tr (by omega) xp_z1906.1
              refine x_goto k8_87 (t := 117) rfl ?_
              refine x_A k8_117 (fun _ => rfl) ?_
              refine x_getI k8_118 (f := 5) rfl (q := 177) (n := 7) (kd := 7) ⟨by decide, rfl⟩ (by decide) rfl ?_
              refine x_rw (q1908) ?_
              refine x_if_eq k8_121 (t := 126) rfl ⟨by omega, by omega⟩ (fun c1916 => ?_) (fun c1916 => by exfalso; omega)
              refine x_A k8_126 (fun _ => rfl) ?_
              refine x_callV k8_127 (y := 51) (n := 0) (w0 := 0) (w1 := 0) (as := []) (rest := []) (by decide +kernel) (q := 177) (nq := 7) (kq := 7) ⟨by decide, rfl⟩ rfl rfl rfl rfl (xe_mono (E_X6_advance_177 s1907 hG_s1907 (by omega)) ?_)
              rintro s1918 v ⟨hG_s1918, t_s1918, rfl, xp_z1917⟩
              have f_s1918 : FL [2501, 2502, 2560, 2688, 2816, 1219, 1220, 1221, 1222, 1223] s0 s1918 := f_s1907.tr t_s1918 (by decide)
              have q1919 : s1918 177 5 = x1000 := (t_s1918 177 5 (show 1222 ∉ [1219, 1220, 1221] from by decide)).trans q1908
              have q1920 : s1918 218 5 = x1001 := (t_s1918 218 5 (show 2502 ∉ [1219, 1220, 1221] from by decide)).trans q1909
              have q1921 : s1918 177 1 = x1002 := (t_s1918 177 1 (show 1218 ∉ [1219, 1220, 1221] from by decide)).trans q1910
              have q1922 : s1918 218 6 = x1004 := (t_s1918 218 6 (show 2503 ∉ [1219, 1220, 1221] from by decide)).trans q1912
              have q1923 : s1918 177 6 = z1862 := (t_s1918 177 6 (show 1223 ∉ [1219, 1220, 1221] from by decide)).trans q1914
              have KF_s1918 : KF s1918 s0 := KF.fl KF_j t_s1918 (by decide)
              show xe none 8 130 [(0, .ref 218), (1, .ref 177), (2, vi x2)] [] s1918 0 0 _
              have tq1924 := xp_z1917
              rw [show s1907 178 = s0 178 from funext fun i => f_s1907 178 i (show 1280 ∉ [2501, 2502, 2560, 2688, 2816, 1219, 1220, 1221, 1222, 1223] from by decide), show s1907 177 1 = s0 177 1 from f_s1907 177 1 (show 1218 ∉ [2501, 2502, 2560, 2688, 2816, 1219, 1220, 1221, 1222, 1223] from by decide), show s1907 177 4 = te (s0 178) (s0 177 1) x1003 by omega] at tq1924
              have TK_s1918 : TKs s1918 := TK.s tq1924 (show s1918 178 = s0 178 from funext fun i => f_s1918 178 i (show 1280 ∉ [2501, 2502, 2560, 2688, 2816, 1219, 1220, 1221, 1222, 1223] from by decide)) (by omega)
              have nq : s1918 177 3 = nx (s0 178) (s0 177 1) x1003 := tq1924.2.2.1
              have nr : nx (s0 178) (s0 177 1) x1003 = sk (s0 178) (s0 177 1) (te (s0 178) (s0 177 1) x1003) := rfl
              obtain ⟨z1925, e_z1925⟩ : ∃ z, z = s1918 177 3 := ⟨_, rfl⟩
              have g_z1925 : (0 : Int) ≤ s1918 177 3 ∧ s1918 177 3 ≤ 160 := hG_s1918 177 3
              unfold TK at tq1924
              refine x_A k8_130 (fun _ => rfl) ?_
              exact x_zret k8_131 rfl ⟨by omega, by omega⟩ ⟨hG_s1918, f_s1918, 1, rfl, ⟨by omega, by omega⟩, ⟨Or.inl ⟨rfl, by omega, by rw [show s1918 218 5 = x1001 by omega, show s1918 177 3 = nx (s0 178) (s0 177 1) x1003 by omega]; exact (w_2 (by omega)).jn (by omega), ⟨by omega, by omega⟩, by omega, by omega⟩, KF_s1918, fun _ y => by rw [show s1918 218 5 = x1001 by omega, show s1918 177 3 = nx (s0 178) (s0 177 1) x1003 by omega]; exact ((w_9 (by omega) y).jn ⟨by omega, by omega⟩ (by omega) xp_z1906).fl t_s1918 ⟨by omega, by omega⟩ (by decide), fun hz => by exfalso; omega⟩, TK_s1918⟩
          · skip
            refine x_A k8_63 (fun _ => rfl) ?_
            refine x_getI k8_64 (f := 5) rfl (q := 218) (n := 7) (kd := 11) ⟨by decide, rfl⟩ (by decide) rfl ?_
            refine x_rw (e_x1001.symm) ?_
            refine x_if_ne k8_67 (t := 72) rfl ⟨by omega, by omega⟩ (fun c1926 => ?_) (fun c1926 => ?_)
            · skip
              refine x_A k8_72 (fun _ => rfl) ?_
              refine x_ldcR k8_73 (q := 2007) rfl ?_
              refine x_callV k8_75 (y := 53) (n := 1) (w0 := 0) (w1 := 1) (as := [.ref 2007]) (rest := []) (by decide +kernel) (q := 177) (nq := 7) (kq := 7) ⟨by decide, rfl⟩ rfl rfl rfl rfl (xe_mono (E_X6_isWord_177_2007 s hG i_TK) ?_)
              rintro s1928 v ⟨-, t_s1928, z1927, rfl, g_z1927, xp_z1927⟩
              rw [t_s1928.nil]
              try rw [t_s1928.nil] at xp_z1927
              show xe none 8 78 [(0, .ref 218), (1, .ref 177), (2, vi x2)] [vi z1927] s 0 0 _
              have sa := xp_z1927
              rw [w_1, show s 177 1 = s0 177 1 by omega, show s 177 3 = x1003 by omega] at sa
              refine x_if_eq k8_78 (t := 90) rfl ⟨by omega, by omega⟩ (fun c1929 => ?_) (fun c1929 => ?_)
              · skip
                refine x_A k8_90 (fun _ => rfl) ?_
                refine x_ldcR k8_91 (q := 2008) rfl ?_
                refine x_callV k8_93 (y := 53) (n := 1) (w0 := 0) (w1 := 1) (as := [.ref 2008]) (rest := []) (by decide +kernel) (q := 177) (nq := 7) (kq := 7) ⟨by decide, rfl⟩ rfl rfl rfl rfl (xe_mono (E_X6_isWord_177_2008 s hG i_TK) ?_)
                rintro s1931 v ⟨-, t_s1931, z1930, rfl, g_z1930, xp_z1930⟩
                rw [t_s1931.nil]
                try rw [t_s1931.nil] at xp_z1930
                show xe none 8 96 [(0, .ref 218), (1, .ref 177), (2, vi x2)] [vi z1930] s 0 0 _
                have so := xp_z1930
                rw [w_1, show s 177 1 = s0 177 1 by omega, show s 177 3 = x1003 by omega] at so
                refine x_if_eq k8_96 (t := 108) rfl ⟨by omega, by omega⟩ (fun c1932 => ?_) (fun c1932 => ?_)
                · skip
                  refine x_A k8_108 (fun _ => rfl) ?_
                  refine x_A k8_109 (fun _ => rfl) ?_
                  refine x_A k8_110 (fun _ => rfl) ?_
                  refine x_getI k8_111 (f := 3) rfl (q := 177) (n := 7) (kd := 7) ⟨by decide, rfl⟩ (by decide) rfl ?_
                  refine x_rw (e_x1003.symm) ?_
                  refine x_callV k8_114 (y := 52) (n := 2) (w0 := 0) (w1 := 2) (as := [vi 1, vi x1003]) (rest := []) (by decide +kernel) (q := 177) (nq := 7) (kq := 7) ⟨by decide, rfl⟩ rfl rfl rfl rfl (xe_mono (E_X6_fail_177 s hG 1 ⟨by omega, by omega⟩ x1003 ⟨by omega, by omega⟩) ?_)
                  rintro s1934 v ⟨hG_s1934, t_s1934, rfl, xp_z1933⟩
                  have f_s1934 : FL [2501, 2502, 2560, 2688, 2816, 1219, 1220, 1221, 1222, 1223] s0 s1934 := f.tr t_s1934 (by decide)
                  have q1935 : s1934 218 5 = x1001 := (t_s1934 218 5 (show 2502 ∉ [1222, 1223] from by decide)).trans e_x1001.symm
                  have q1936 : s1934 177 1 = x1002 := (t_s1934 177 1 (show 1218 ∉ [1222, 1223] from by decide)).trans e_x1002.symm
                  have q1937 : s1934 177 3 = x1003 := (t_s1934 177 3 (show 1220 ∉ [1222, 1223] from by decide)).trans e_x1003.symm
                  have q1938 : s1934 218 6 = x1004 := (t_s1934 218 6 (show 2503 ∉ [1222, 1223] from by decide)).trans e_x1004.symm
                  have q1939 : s1934 177 4 = z1861 := (t_s1934 177 4 (show 1221 ∉ [1222, 1223] from by decide)).trans e_z1861.symm
                  have q1940 : s1934 177 2 = z1867 := (t_s1934 177 2 (show 1219 ∉ [1222, 1223] from by decide)).trans e_z1867.symm
                  have TK_s1934 : TKs s1934 := TKs.fl i_TK t_s1934 (by decide)
                  have KF_s1934 : KF s1934 s0 := KF.fl w_8 t_s1934 (by decide)
                  obtain ⟨z1941, e_z1941⟩ : ∃ z, z = s1934 177 5 := ⟨_, rfl⟩
                  have g_z1941 : (0 : Int) ≤ s1934 177 5 ∧ s1934 177 5 ≤ 5 := hG_s1934 177 5
                  obtain ⟨z1942, e_z1942⟩ : ∃ z, z = s1934 177 6 := ⟨_, rfl⟩
                  have g_z1942 : (-2147483648) ≤ s1934 177 6 ∧ s1934 177 6 ≤ 2147483647 := hG_s1934 177 6
                  show xe none 8 117 [(0, .ref 218), (1, .ref 177), (2, vi x2)] [] s1934 0 0 _
                  refine x_A k8_117 (fun _ => rfl) ?_
                  refine x_getI k8_118 (f := 5) rfl (q := 177) (n := 7) (kd := 7) ⟨by decide, rfl⟩ (by decide) rfl ?_
                  refine x_rw (e_z1941.symm) ?_
                  refine x_if_eq k8_121 (t := 126) rfl ⟨by omega, by omega⟩ (fun c1943 => by exfalso; omega) (fun c1943 => ?_)
                  refine x_A k8_124 (fun _ => rfl) ?_
                  exact x_zret k8_125 rfl ⟨by omega, by omega⟩ ⟨hG_s1934, f_s1934, 0, rfl, ⟨by omega, by omega⟩, ⟨Or.inr ⟨rfl, Or.inr ⟨by omega, by rw [show s1934 177 5 = 1 by omega, show s1934 177 6 = x1003 by omega]; exact (w_2 (by omega)).bad ⟨by omega, by omega⟩ (by omega) (by have kc := kd_cs (T := s0 178) (n := s0 177 1) (p := x1003); omega)⟩⟩, KF_s1934, fun hz => by exfalso; omega, fun hz h0 => by exfalso; omega⟩, TK_s1934⟩
                · skip
                  refine x_A k8_99 (fun _ => rfl) ?_
                  refine x_bipush k8_100 (by decide +kernel) ?_
                  refine x_callV k8_102 (y := 10) (n := 1) (w0 := 0) (w1 := 1) (as := [vi 7]) (rest := []) (by decide +kernel) (q := 218) (nq := 7) (kq := 11) ⟨by decide, rfl⟩ rfl rfl rfl rfl (xe_mono (W_X0_joinBy_218 s hG 7 ⟨by omega, by omega⟩ ⟨by omega, by omega⟩) ?_)
                  rintro s1945 v ⟨hG_s1945, t_s1945, rfl, xp_z1944⟩
                  have f_s1945 : FL [2501, 2502, 2560, 2688, 2816, 1219, 1220, 1221, 1222, 1223] s0 s1945 := f.tr t_s1945 (by decide)
                  have q1946 : s1945 177 5 = x1000 := (t_s1945 177 5 (show 1222 ∉ [2501, 2560, 2688, 2816] from by decide)).trans e_x1000.symm
                  have q1947 : s1945 218 5 = x1001 := (t_s1945 218 5 (show 2502 ∉ [2501, 2560, 2688, 2816] from by decide)).trans e_x1001.symm
                  have q1948 : s1945 177 1 = x1002 := (t_s1945 177 1 (show 1218 ∉ [2501, 2560, 2688, 2816] from by decide)).trans e_x1002.symm
                  have q1949 : s1945 177 3 = x1003 := (t_s1945 177 3 (show 1220 ∉ [2501, 2560, 2688, 2816] from by decide)).trans e_x1003.symm
                  have q1950 : s1945 218 6 = x1004 := (t_s1945 218 6 (show 2503 ∉ [2501, 2560, 2688, 2816] from by decide)).trans e_x1004.symm
                  have q1951 : s1945 177 4 = z1861 := (t_s1945 177 4 (show 1221 ∉ [2501, 2560, 2688, 2816] from by decide)).trans e_z1861.symm
                  have q1952 : s1945 177 6 = z1862 := (t_s1945 177 6 (show 1223 ∉ [2501, 2560, 2688, 2816] from by decide)).trans e_z1862.symm
                  have q1953 : s1945 177 2 = z1867 := (t_s1945 177 2 (show 1219 ∉ [2501, 2560, 2688, 2816] from by decide)).trans e_z1867.symm
                  have TK_s1945 : TKs s1945 := TKs.fl i_TK t_s1945 (by decide)
                  show xe none 8 105 [(0, .ref 218), (1, .ref 177), (2, vi x2)] [] s1945 0 0 _
                  have KF_j : KF s1945 s0 := w_8.tr (by omega) xp_z1944.1
                  refine x_goto k8_105 (t := 117) rfl ?_
                  refine x_A k8_117 (fun _ => rfl) ?_
                  refine x_getI k8_118 (f := 5) rfl (q := 177) (n := 7) (kd := 7) ⟨by decide, rfl⟩ (by decide) rfl ?_
                  refine x_rw (q1946) ?_
                  refine x_if_eq k8_121 (t := 126) rfl ⟨by omega, by omega⟩ (fun c1954 => ?_) (fun c1954 => by exfalso; omega)
                  refine x_A k8_126 (fun _ => rfl) ?_
                  refine x_callV k8_127 (y := 51) (n := 0) (w0 := 0) (w1 := 0) (as := []) (rest := []) (by decide +kernel) (q := 177) (nq := 7) (kq := 7) ⟨by decide, rfl⟩ rfl rfl rfl rfl (xe_mono (E_X6_advance_177 s1945 hG_s1945 (by omega)) ?_)
                  rintro s1956 v ⟨hG_s1956, t_s1956, rfl, xp_z1955⟩
                  have f_s1956 : FL [2501, 2502, 2560, 2688, 2816, 1219, 1220, 1221, 1222, 1223] s0 s1956 := f_s1945.tr t_s1956 (by decide)
                  have q1957 : s1956 177 5 = x1000 := (t_s1956 177 5 (show 1222 ∉ [1219, 1220, 1221] from by decide)).trans q1946
                  have q1958 : s1956 218 5 = x1001 := (t_s1956 218 5 (show 2502 ∉ [1219, 1220, 1221] from by decide)).trans q1947
                  have q1959 : s1956 177 1 = x1002 := (t_s1956 177 1 (show 1218 ∉ [1219, 1220, 1221] from by decide)).trans q1948
                  have q1960 : s1956 218 6 = x1004 := (t_s1956 218 6 (show 2503 ∉ [1219, 1220, 1221] from by decide)).trans q1950
                  have q1961 : s1956 177 6 = z1862 := (t_s1956 177 6 (show 1223 ∉ [1219, 1220, 1221] from by decide)).trans q1952
                  have KF_s1956 : KF s1956 s0 := KF.fl KF_j t_s1956 (by decide)
                  show xe none 8 130 [(0, .ref 218), (1, .ref 177), (2, vi x2)] [] s1956 0 0 _
                  have tq1962 := xp_z1955
                  rw [show s1945 178 = s0 178 from funext fun i => f_s1945 178 i (show 1280 ∉ [2501, 2502, 2560, 2688, 2816, 1219, 1220, 1221, 1222, 1223] from by decide), show s1945 177 1 = s0 177 1 from f_s1945 177 1 (show 1218 ∉ [2501, 2502, 2560, 2688, 2816, 1219, 1220, 1221, 1222, 1223] from by decide), show s1945 177 4 = te (s0 178) (s0 177 1) x1003 by omega] at tq1962
                  have TK_s1956 : TKs s1956 := TK.s tq1962 (show s1956 178 = s0 178 from funext fun i => f_s1956 178 i (show 1280 ∉ [2501, 2502, 2560, 2688, 2816, 1219, 1220, 1221, 1222, 1223] from by decide)) (by omega)
                  have nq : s1956 177 3 = nx (s0 178) (s0 177 1) x1003 := tq1962.2.2.1
                  have nr : nx (s0 178) (s0 177 1) x1003 = sk (s0 178) (s0 177 1) (te (s0 178) (s0 177 1) x1003) := rfl
                  obtain ⟨z1963, e_z1963⟩ : ∃ z, z = s1956 177 3 := ⟨_, rfl⟩
                  have g_z1963 : (0 : Int) ≤ s1956 177 3 ∧ s1956 177 3 ≤ 160 := hG_s1956 177 3
                  unfold TK at tq1962
                  refine x_A k8_130 (fun _ => rfl) ?_
                  exact x_zret k8_131 rfl ⟨by omega, by omega⟩ ⟨hG_s1956, f_s1956, 1, rfl, ⟨by omega, by omega⟩, ⟨Or.inl ⟨rfl, by omega, by rw [show s1956 218 5 = x1001 by omega, show s1956 177 3 = nx (s0 178) (s0 177 1) x1003 by omega]; exact (w_2 (by omega)).jn (by omega), ⟨by omega, by omega⟩, by omega, by omega⟩, KF_s1956, fun _ y => by rw [show s1956 218 5 = x1001 by omega, show s1956 177 3 = nx (s0 178) (s0 177 1) x1003 by omega]; exact ((w_9 (by omega) y).jn ⟨by omega, by omega⟩ (by omega) xp_z1944).fl t_s1956 ⟨by omega, by omega⟩ (by decide), fun hz => by exfalso; omega⟩, TK_s1956⟩
              · skip
                refine x_A k8_81 (fun _ => rfl) ?_
                refine x_bipush k8_82 (by decide +kernel) ?_
                refine x_callV k8_84 (y := 10) (n := 1) (w0 := 0) (w1 := 1) (as := [vi 8]) (rest := []) (by decide +kernel) (q := 218) (nq := 7) (kq := 11) ⟨by decide, rfl⟩ rfl rfl rfl rfl (xe_mono (W_X0_joinBy_218 s hG 8 ⟨by omega, by omega⟩ ⟨by omega, by omega⟩) ?_)
                rintro s1965 v ⟨hG_s1965, t_s1965, rfl, xp_z1964⟩
                have f_s1965 : FL [2501, 2502, 2560, 2688, 2816, 1219, 1220, 1221, 1222, 1223] s0 s1965 := f.tr t_s1965 (by decide)
                have q1966 : s1965 177 5 = x1000 := (t_s1965 177 5 (show 1222 ∉ [2501, 2560, 2688, 2816] from by decide)).trans e_x1000.symm
                have q1967 : s1965 218 5 = x1001 := (t_s1965 218 5 (show 2502 ∉ [2501, 2560, 2688, 2816] from by decide)).trans e_x1001.symm
                have q1968 : s1965 177 1 = x1002 := (t_s1965 177 1 (show 1218 ∉ [2501, 2560, 2688, 2816] from by decide)).trans e_x1002.symm
                have q1969 : s1965 177 3 = x1003 := (t_s1965 177 3 (show 1220 ∉ [2501, 2560, 2688, 2816] from by decide)).trans e_x1003.symm
                have q1970 : s1965 218 6 = x1004 := (t_s1965 218 6 (show 2503 ∉ [2501, 2560, 2688, 2816] from by decide)).trans e_x1004.symm
                have q1971 : s1965 177 4 = z1861 := (t_s1965 177 4 (show 1221 ∉ [2501, 2560, 2688, 2816] from by decide)).trans e_z1861.symm
                have q1972 : s1965 177 6 = z1862 := (t_s1965 177 6 (show 1223 ∉ [2501, 2560, 2688, 2816] from by decide)).trans e_z1862.symm
                have q1973 : s1965 177 2 = z1867 := (t_s1965 177 2 (show 1219 ∉ [2501, 2560, 2688, 2816] from by decide)).trans e_z1867.symm
                have TK_s1965 : TKs s1965 := TKs.fl i_TK t_s1965 (by decide)
                show xe none 8 87 [(0, .ref 218), (1, .ref 177), (2, vi x2)] [] s1965 0 0 _
                have KF_j : KF s1965 s0 := w_8.tr (by omega) xp_z1964.1
                refine x_goto k8_87 (t := 117) rfl ?_
                refine x_A k8_117 (fun _ => rfl) ?_
                refine x_getI k8_118 (f := 5) rfl (q := 177) (n := 7) (kd := 7) ⟨by decide, rfl⟩ (by decide) rfl ?_
                refine x_rw (q1966) ?_
                refine x_if_eq k8_121 (t := 126) rfl ⟨by omega, by omega⟩ (fun c1974 => ?_) (fun c1974 => by exfalso; omega)
                refine x_A k8_126 (fun _ => rfl) ?_
                refine x_callV k8_127 (y := 51) (n := 0) (w0 := 0) (w1 := 0) (as := []) (rest := []) (by decide +kernel) (q := 177) (nq := 7) (kq := 7) ⟨by decide, rfl⟩ rfl rfl rfl rfl (xe_mono (E_X6_advance_177 s1965 hG_s1965 (by omega)) ?_)
                rintro s1976 v ⟨hG_s1976, t_s1976, rfl, xp_z1975⟩
                have f_s1976 : FL [2501, 2502, 2560, 2688, 2816, 1219, 1220, 1221, 1222, 1223] s0 s1976 := f_s1965.tr t_s1976 (by decide)
                have q1977 : s1976 177 5 = x1000 := (t_s1976 177 5 (show 1222 ∉ [1219, 1220, 1221] from by decide)).trans q1966
                have q1978 : s1976 218 5 = x1001 := (t_s1976 218 5 (show 2502 ∉ [1219, 1220, 1221] from by decide)).trans q1967
                have q1979 : s1976 177 1 = x1002 := (t_s1976 177 1 (show 1218 ∉ [1219, 1220, 1221] from by decide)).trans q1968
                have q1980 : s1976 218 6 = x1004 := (t_s1976 218 6 (show 2503 ∉ [1219, 1220, 1221] from by decide)).trans q1970
                have q1981 : s1976 177 6 = z1862 := (t_s1976 177 6 (show 1223 ∉ [1219, 1220, 1221] from by decide)).trans q1972
                have KF_s1976 : KF s1976 s0 := KF.fl KF_j t_s1976 (by decide)
                show xe none 8 130 [(0, .ref 218), (1, .ref 177), (2, vi x2)] [] s1976 0 0 _
                have tq1982 := xp_z1975
                rw [show s1965 178 = s0 178 from funext fun i => f_s1965 178 i (show 1280 ∉ [2501, 2502, 2560, 2688, 2816, 1219, 1220, 1221, 1222, 1223] from by decide), show s1965 177 1 = s0 177 1 from f_s1965 177 1 (show 1218 ∉ [2501, 2502, 2560, 2688, 2816, 1219, 1220, 1221, 1222, 1223] from by decide), show s1965 177 4 = te (s0 178) (s0 177 1) x1003 by omega] at tq1982
                have TK_s1976 : TKs s1976 := TK.s tq1982 (show s1976 178 = s0 178 from funext fun i => f_s1976 178 i (show 1280 ∉ [2501, 2502, 2560, 2688, 2816, 1219, 1220, 1221, 1222, 1223] from by decide)) (by omega)
                have nq : s1976 177 3 = nx (s0 178) (s0 177 1) x1003 := tq1982.2.2.1
                have nr : nx (s0 178) (s0 177 1) x1003 = sk (s0 178) (s0 177 1) (te (s0 178) (s0 177 1) x1003) := rfl
                obtain ⟨z1983, e_z1983⟩ : ∃ z, z = s1976 177 3 := ⟨_, rfl⟩
                have g_z1983 : (0 : Int) ≤ s1976 177 3 ∧ s1976 177 3 ≤ 160 := hG_s1976 177 3
                unfold TK at tq1982
                refine x_A k8_130 (fun _ => rfl) ?_
                exact x_zret k8_131 rfl ⟨by omega, by omega⟩ ⟨hG_s1976, f_s1976, 1, rfl, ⟨by omega, by omega⟩, ⟨Or.inl ⟨rfl, by omega, by rw [show s1976 218 5 = x1001 by omega, show s1976 177 3 = nx (s0 178) (s0 177 1) x1003 by omega]; exact (w_2 (by omega)).jn (by omega), ⟨by omega, by omega⟩, by omega, by omega⟩, KF_s1976, fun _ y => by rw [show s1976 218 5 = x1001 by omega, show s1976 177 3 = nx (s0 178) (s0 177 1) x1003 by omega]; exact ((w_9 (by omega) y).jn ⟨by omega, by omega⟩ (by omega) xp_z1964).fl t_s1976 ⟨by omega, by omega⟩ (by decide), fun hz => by exfalso; omega⟩, TK_s1976⟩
            · skip
              refine x_A k8_70 (fun _ => rfl) ?_
              exact x_zret k8_71 rfl ⟨by omega, by omega⟩ ⟨hG, f, 0, rfl, ⟨by omega, by omega⟩, ⟨Or.inr ⟨rfl, Or.inl ⟨by omega, (w_2 (by omega)).fin (by omega) (by have kc := kd_cs (T := s0 178) (n := s0 177 1) (p := x1003); omega)⟩⟩, w_8, fun hz => by exfalso; omega, fun hz h0 => ⟨by omega, fun y => (w_9 (by omega) y).fin ⟨by omega, by omega⟩ (by omega) (by have kc := kd_cs (T := s0 178) (n := s0 177 1) (p := x1003); omega)⟩⟩, i_TK⟩
        · skip
          refine x_A k8_23 (fun _ => rfl) ?_
          refine x_getI k8_24 (f := 5) rfl (q := 218) (n := 7) (kd := 11) ⟨by decide, rfl⟩ (by decide) rfl ?_
          refine x_rw (e_x1001.symm) ?_
          refine x_if_ne k8_27 (t := 33) rfl ⟨by omega, by omega⟩ (fun c1984 => ?_) (fun c1984 => ?_)
          · skip
            refine x_A k8_33 (fun _ => rfl) ?_
            refine x_callV k8_34 (y := 9) (n := 0) (w0 := 0) (w1 := 0) (as := []) (rest := []) (by decide +kernel) (q := 218) (nq := 7) (kq := 11) ⟨by decide, rfl⟩ rfl rfl rfl rfl (xe_mono (W_X0_closeBracket_218 s hG ⟨by omega, by omega⟩ ⟨by omega, by omega⟩) ?_)
            rintro s1986 v ⟨hG_s1986, t_s1986, rfl, xp_z1985⟩
            have f_s1986 : FL [2501, 2502, 2560, 2688, 2816, 1219, 1220, 1221, 1222, 1223] s0 s1986 := f.tr t_s1986 (by decide)
            have q1987 : s1986 177 5 = x1000 := (t_s1986 177 5 (show 1222 ∉ [2501, 2502, 2560, 2688] from by decide)).trans e_x1000.symm
            have q1988 : s1986 177 1 = x1002 := (t_s1986 177 1 (show 1218 ∉ [2501, 2502, 2560, 2688] from by decide)).trans e_x1002.symm
            have q1989 : s1986 177 3 = x1003 := (t_s1986 177 3 (show 1220 ∉ [2501, 2502, 2560, 2688] from by decide)).trans e_x1003.symm
            have q1990 : s1986 218 6 = x1004 := (t_s1986 218 6 (show 2503 ∉ [2501, 2502, 2560, 2688] from by decide)).trans e_x1004.symm
            have q1991 : s1986 177 4 = z1861 := (t_s1986 177 4 (show 1221 ∉ [2501, 2502, 2560, 2688] from by decide)).trans e_z1861.symm
            have q1992 : s1986 177 6 = z1862 := (t_s1986 177 6 (show 1223 ∉ [2501, 2502, 2560, 2688] from by decide)).trans e_z1862.symm
            have TK_s1986 : TKs s1986 := TKs.fl i_TK t_s1986 (by decide)
            obtain ⟨z1993, e_z1993⟩ : ∃ z, z = s1986 218 5 := ⟨_, rfl⟩
            have g_z1993 : (-2147483648) ≤ s1986 218 5 ∧ s1986 218 5 ≤ 2147483647 := hG_s1986 218 5
            obtain ⟨z1994, e_z1994⟩ : ∃ z, z = s1986 218 4 := ⟨_, rfl⟩
            have g_z1994 : (0 : Int) ≤ s1986 218 4 ∧ s1986 218 4 ≤ 100 := hG_s1986 218 4
            show xe none 8 37 [(0, .ref 218), (1, .ref 177), (2, vi x2)] [] s1986 0 0 _
            obtain ⟨xo_z1985, xn_z1985⟩ := xp_z1985
            have KF_c : KF s1986 s0 := w_8.tr (by omega) xn_z1985.1
            refine x_A k8_37 (fun _ => rfl) ?_
            refine x_callV k8_38 (y := 51) (n := 0) (w0 := 0) (w1 := 0) (as := []) (rest := []) (by decide +kernel) (q := 177) (nq := 7) (kq := 7) ⟨by decide, rfl⟩ rfl rfl rfl rfl (xe_mono (E_X6_advance_177 s1986 hG_s1986 (by omega)) ?_)
            rintro s1996 v ⟨hG_s1996, t_s1996, rfl, xp_z1995⟩
            have f_s1996 : FL [2501, 2502, 2560, 2688, 2816, 1219, 1220, 1221, 1222, 1223] s0 s1996 := f_s1986.tr t_s1996 (by decide)
            have q1997 : s1996 177 5 = x1000 := (t_s1996 177 5 (show 1222 ∉ [1219, 1220, 1221] from by decide)).trans q1987
            have q1998 : s1996 177 1 = x1002 := (t_s1996 177 1 (show 1218 ∉ [1219, 1220, 1221] from by decide)).trans q1988
            have q1999 : s1996 218 6 = x1004 := (t_s1996 218 6 (show 2503 ∉ [1219, 1220, 1221] from by decide)).trans q1990
            have q2000 : s1996 177 6 = z1862 := (t_s1996 177 6 (show 1223 ∉ [1219, 1220, 1221] from by decide)).trans q1992
            have q2001 : s1996 218 5 = z1993 := (t_s1996 218 5 (show 2502 ∉ [1219, 1220, 1221] from by decide)).trans e_z1993.symm
            have q2002 : s1996 218 4 = z1994 := (t_s1996 218 4 (show 2501 ∉ [1219, 1220, 1221] from by decide)).trans e_z1994.symm
            have KF_s1996 : KF s1996 s0 := KF.fl KF_c t_s1996 (by decide)
            show xe none 8 41 [(0, .ref 218), (1, .ref 177), (2, vi x2)] [] s1996 0 0 _
            have tq2003 := xp_z1995
            rw [show s1986 178 = s0 178 from funext fun i => f_s1986 178 i (show 1280 ∉ [2501, 2502, 2560, 2688, 2816, 1219, 1220, 1221, 1222, 1223] from by decide), show s1986 177 1 = s0 177 1 from f_s1986 177 1 (show 1218 ∉ [2501, 2502, 2560, 2688, 2816, 1219, 1220, 1221, 1222, 1223] from by decide), show s1986 177 4 = te (s0 178) (s0 177 1) x1003 by omega] at tq2003
            have TK_s1996 : TKs s1996 := TK.s tq2003 (show s1996 178 = s0 178 from funext fun i => f_s1996 178 i (show 1280 ∉ [2501, 2502, 2560, 2688, 2816, 1219, 1220, 1221, 1222, 1223] from by decide)) (by omega)
            have nq : s1996 177 3 = nx (s0 178) (s0 177 1) x1003 := tq2003.2.2.1
            have nr : nx (s0 178) (s0 177 1) x1003 = sk (s0 178) (s0 177 1) (te (s0 178) (s0 177 1) x1003) := rfl
            obtain ⟨z2004, e_z2004⟩ : ∃ z, z = s1996 177 3 := ⟨_, rfl⟩
            have g_z2004 : (0 : Int) ≤ s1996 177 3 ∧ s1996 177 3 ≤ 160 := hG_s1996 177 3
            unfold TK at tq2003
            refine x_iinc k8_41 (ls' := [(2, vi (x2 + 1)), (0, .ref 218), (1, .ref 177)]) rfl (by decide) rfl ?_
            refine x_goto k8_44 (t := 2) rfl ?_
            refine x_ls (l := [(0, .ref 218), (1, .ref 177), (2, vi (x2 + 1))]) (show ([0, 1, 2] : List Nat).Nodup from by decide) ⟨rfl, rfl, rfl, trivial⟩ ?_
            exact ih s1996 (x2 + 1) x1000 z1993 x1002 z2004 x1004 hG_s1996 f_s1996 ⟨by omega, by omega⟩ ⟨by omega, by omega⟩ ⟨by omega, by omega⟩ ⟨by omega, by omega⟩ ⟨by omega, by omega⟩ ⟨by omega, by omega⟩ (by omega) (show s1996 178 = s0 178 from funext fun i => f_s1996 178 i (show 1280 ∉ [2501, 2502, 2560, 2688, 2816, 1219, 1220, 1221, 1222, 1223] from by decide)) (fun hz => by rw [show z1993 = x1001 - 1 by omega, show z2004 = nx (s0 178) (s0 177 1) x1003 by omega]; exact (w_2 (by omega)).cl (by omega) (by omega)) (fun hz => by exfalso; omega) (by omega) (by omega) (by omega) (by omega) KF_s1996 (fun hz y => by rw [show z1993 = x1001 - 1 by omega, show z2004 = nx (s0 178) (s0 177 1) x1003 by omega]; exact ((w_9 (by omega) y).cl ⟨by omega, by omega⟩ (by omega) (by omega) xn_z1985).fl t_s1996 ⟨by omega, by omega⟩ (by decide)) (q1997).symm (q2001).symm (q1998).symm (e_z2004.symm).symm (q1999).symm TK_s1996  (by omega)
          · skip
            refine x_goto k8_30 (t := 47) rfl ?_
            refine x_A k8_47 (fun _ => rfl) ?_
            refine x_getI k8_48 (f := 5) rfl (q := 177) (n := 7) (kd := 7) ⟨by decide, rfl⟩ (by decide) rfl ?_
            refine x_rw (e_x1000.symm) ?_
            refine x_if_eq k8_51 (t := 56) rfl ⟨by omega, by omega⟩ (fun c2005 => ?_) (fun c2005 => by exfalso; omega)
            refine x_A k8_56 (fun _ => rfl) ?_
            refine x_getI k8_57 (f := 2) rfl (q := 177) (n := 7) (kd := 7) ⟨by decide, rfl⟩ (by decide) rfl ?_
            refine x_top (fun z2006 e_z2006 => ?_)
            have g_z2006 : (0 : Int) ≤ s 177 2 ∧ s 177 2 ≤ 3 := hG 177 2
            refine x_if_ne k8_60 (t := 72) rfl ⟨by omega, by omega⟩ (fun c2007 => ?_) (fun c2007 => ?_)
            · skip
              refine x_A k8_72 (fun _ => rfl) ?_
              refine x_ldcR k8_73 (q := 2007) rfl ?_
              refine x_callV k8_75 (y := 53) (n := 1) (w0 := 0) (w1 := 1) (as := [.ref 2007]) (rest := []) (by decide +kernel) (q := 177) (nq := 7) (kq := 7) ⟨by decide, rfl⟩ rfl rfl rfl rfl (xe_mono (E_X6_isWord_177_2007 s hG i_TK) ?_)
              rintro s2009 v ⟨-, t_s2009, z2008, rfl, g_z2008, xp_z2008⟩
              rw [t_s2009.nil]
              try rw [t_s2009.nil] at xp_z2008
              show xe none 8 78 [(0, .ref 218), (1, .ref 177), (2, vi x2)] [vi z2008] s 0 0 _
              have sa := xp_z2008
              rw [w_1, show s 177 1 = s0 177 1 by omega, show s 177 3 = x1003 by omega] at sa
              refine x_if_eq k8_78 (t := 90) rfl ⟨by omega, by omega⟩ (fun c2010 => ?_) (fun c2010 => ?_)
              · skip
                refine x_A k8_90 (fun _ => rfl) ?_
                refine x_ldcR k8_91 (q := 2008) rfl ?_
                refine x_callV k8_93 (y := 53) (n := 1) (w0 := 0) (w1 := 1) (as := [.ref 2008]) (rest := []) (by decide +kernel) (q := 177) (nq := 7) (kq := 7) ⟨by decide, rfl⟩ rfl rfl rfl rfl (xe_mono (E_X6_isWord_177_2008 s hG i_TK) ?_)
                rintro s2012 v ⟨-, t_s2012, z2011, rfl, g_z2011, xp_z2011⟩
                rw [t_s2012.nil]
                try rw [t_s2012.nil] at xp_z2011
                show xe none 8 96 [(0, .ref 218), (1, .ref 177), (2, vi x2)] [vi z2011] s 0 0 _
                have so := xp_z2011
                rw [w_1, show s 177 1 = s0 177 1 by omega, show s 177 3 = x1003 by omega] at so
                refine x_if_eq k8_96 (t := 108) rfl ⟨by omega, by omega⟩ (fun c2013 => ?_) (fun c2013 => ?_)
                · skip
                  refine x_A k8_108 (fun _ => rfl) ?_
                  refine x_A k8_109 (fun _ => rfl) ?_
                  refine x_A k8_110 (fun _ => rfl) ?_
                  refine x_getI k8_111 (f := 3) rfl (q := 177) (n := 7) (kd := 7) ⟨by decide, rfl⟩ (by decide) rfl ?_
                  refine x_rw (e_x1003.symm) ?_
                  refine x_callV k8_114 (y := 52) (n := 2) (w0 := 0) (w1 := 2) (as := [vi 1, vi x1003]) (rest := []) (by decide +kernel) (q := 177) (nq := 7) (kq := 7) ⟨by decide, rfl⟩ rfl rfl rfl rfl (xe_mono (E_X6_fail_177 s hG 1 ⟨by omega, by omega⟩ x1003 ⟨by omega, by omega⟩) ?_)
                  rintro s2015 v ⟨hG_s2015, t_s2015, rfl, xp_z2014⟩
                  have f_s2015 : FL [2501, 2502, 2560, 2688, 2816, 1219, 1220, 1221, 1222, 1223] s0 s2015 := f.tr t_s2015 (by decide)
                  have q2016 : s2015 218 5 = x1001 := (t_s2015 218 5 (show 2502 ∉ [1222, 1223] from by decide)).trans e_x1001.symm
                  have q2017 : s2015 177 1 = x1002 := (t_s2015 177 1 (show 1218 ∉ [1222, 1223] from by decide)).trans e_x1002.symm
                  have q2018 : s2015 177 3 = x1003 := (t_s2015 177 3 (show 1220 ∉ [1222, 1223] from by decide)).trans e_x1003.symm
                  have q2019 : s2015 218 6 = x1004 := (t_s2015 218 6 (show 2503 ∉ [1222, 1223] from by decide)).trans e_x1004.symm
                  have q2020 : s2015 177 4 = z1861 := (t_s2015 177 4 (show 1221 ∉ [1222, 1223] from by decide)).trans e_z1861.symm
                  have q2021 : s2015 177 2 = z2006 := (t_s2015 177 2 (show 1219 ∉ [1222, 1223] from by decide)).trans e_z2006.symm
                  have TK_s2015 : TKs s2015 := TKs.fl i_TK t_s2015 (by decide)
                  have KF_s2015 : KF s2015 s0 := KF.fl w_8 t_s2015 (by decide)
                  obtain ⟨z2022, e_z2022⟩ : ∃ z, z = s2015 177 5 := ⟨_, rfl⟩
                  have g_z2022 : (0 : Int) ≤ s2015 177 5 ∧ s2015 177 5 ≤ 5 := hG_s2015 177 5
                  obtain ⟨z2023, e_z2023⟩ : ∃ z, z = s2015 177 6 := ⟨_, rfl⟩
                  have g_z2023 : (-2147483648) ≤ s2015 177 6 ∧ s2015 177 6 ≤ 2147483647 := hG_s2015 177 6
                  show xe none 8 117 [(0, .ref 218), (1, .ref 177), (2, vi x2)] [] s2015 0 0 _
                  refine x_A k8_117 (fun _ => rfl) ?_
                  refine x_getI k8_118 (f := 5) rfl (q := 177) (n := 7) (kd := 7) ⟨by decide, rfl⟩ (by decide) rfl ?_
                  refine x_rw (e_z2022.symm) ?_
                  refine x_if_eq k8_121 (t := 126) rfl ⟨by omega, by omega⟩ (fun c2024 => by exfalso; omega) (fun c2024 => ?_)
                  refine x_A k8_124 (fun _ => rfl) ?_
                  exact x_zret k8_125 rfl ⟨by omega, by omega⟩ ⟨hG_s2015, f_s2015, 0, rfl, ⟨by omega, by omega⟩, ⟨Or.inr ⟨rfl, Or.inr ⟨by omega, by rw [show s2015 177 5 = 1 by omega, show s2015 177 6 = x1003 by omega]; exact (w_2 (by omega)).bad ⟨by omega, by omega⟩ (by omega) (by have kc := kd_cs (T := s0 178) (n := s0 177 1) (p := x1003); omega)⟩⟩, KF_s2015, fun hz => by exfalso; omega, fun hz h0 => by exfalso; omega⟩, TK_s2015⟩
                · skip
                  refine x_A k8_99 (fun _ => rfl) ?_
                  refine x_bipush k8_100 (by decide +kernel) ?_
                  refine x_callV k8_102 (y := 10) (n := 1) (w0 := 0) (w1 := 1) (as := [vi 7]) (rest := []) (by decide +kernel) (q := 218) (nq := 7) (kq := 11) ⟨by decide, rfl⟩ rfl rfl rfl rfl (xe_mono (W_X0_joinBy_218 s hG 7 ⟨by omega, by omega⟩ ⟨by omega, by omega⟩) ?_)
                  rintro s2026 v ⟨hG_s2026, t_s2026, rfl, xp_z2025⟩
                  have f_s2026 : FL [2501, 2502, 2560, 2688, 2816, 1219, 1220, 1221, 1222, 1223] s0 s2026 := f.tr t_s2026 (by decide)
                  have q2027 : s2026 177 5 = x1000 := (t_s2026 177 5 (show 1222 ∉ [2501, 2560, 2688, 2816] from by decide)).trans e_x1000.symm
                  have q2028 : s2026 218 5 = x1001 := (t_s2026 218 5 (show 2502 ∉ [2501, 2560, 2688, 2816] from by decide)).trans e_x1001.symm
                  have q2029 : s2026 177 1 = x1002 := (t_s2026 177 1 (show 1218 ∉ [2501, 2560, 2688, 2816] from by decide)).trans e_x1002.symm
                  have q2030 : s2026 177 3 = x1003 := (t_s2026 177 3 (show 1220 ∉ [2501, 2560, 2688, 2816] from by decide)).trans e_x1003.symm
                  have q2031 : s2026 218 6 = x1004 := (t_s2026 218 6 (show 2503 ∉ [2501, 2560, 2688, 2816] from by decide)).trans e_x1004.symm
                  have q2032 : s2026 177 4 = z1861 := (t_s2026 177 4 (show 1221 ∉ [2501, 2560, 2688, 2816] from by decide)).trans e_z1861.symm
                  have q2033 : s2026 177 6 = z1862 := (t_s2026 177 6 (show 1223 ∉ [2501, 2560, 2688, 2816] from by decide)).trans e_z1862.symm
                  have q2034 : s2026 177 2 = z2006 := (t_s2026 177 2 (show 1219 ∉ [2501, 2560, 2688, 2816] from by decide)).trans e_z2006.symm
                  have TK_s2026 : TKs s2026 := TKs.fl i_TK t_s2026 (by decide)
                  show xe none 8 105 [(0, .ref 218), (1, .ref 177), (2, vi x2)] [] s2026 0 0 _
                  have KF_j : KF s2026 s0 := w_8.tr (by omega) xp_z2025.1
                  refine x_goto k8_105 (t := 117) rfl ?_
                  refine x_A k8_117 (fun _ => rfl) ?_
                  refine x_getI k8_118 (f := 5) rfl (q := 177) (n := 7) (kd := 7) ⟨by decide, rfl⟩ (by decide) rfl ?_
                  refine x_rw (q2027) ?_
                  refine x_if_eq k8_121 (t := 126) rfl ⟨by omega, by omega⟩ (fun c2035 => ?_) (fun c2035 => by exfalso; omega)
                  refine x_A k8_126 (fun _ => rfl) ?_
                  refine x_callV k8_127 (y := 51) (n := 0) (w0 := 0) (w1 := 0) (as := []) (rest := []) (by decide +kernel) (q := 177) (nq := 7) (kq := 7) ⟨by decide, rfl⟩ rfl rfl rfl rfl (xe_mono (E_X6_advance_177 s2026 hG_s2026 (by omega)) ?_)
                  rintro s2037 v ⟨hG_s2037, t_s2037, rfl, xp_z2036⟩
                  have f_s2037 : FL [2501, 2502, 2560, 2688, 2816, 1219, 1220, 1221, 1222, 1223] s0 s2037 := f_s2026.tr t_s2037 (by decide)
                  have q2038 : s2037 177 5 = x1000 := (t_s2037 177 5 (show 1222 ∉ [1219, 1220, 1221] from by decide)).trans q2027
                  have q2039 : s2037 218 5 = x1001 := (t_s2037 218 5 (show 2502 ∉ [1219, 1220, 1221] from by decide)).trans q2028
                  have q2040 : s2037 177 1 = x1002 := (t_s2037 177 1 (show 1218 ∉ [1219, 1220, 1221] from by decide)).trans q2029
                  have q2041 : s2037 218 6 = x1004 := (t_s2037 218 6 (show 2503 ∉ [1219, 1220, 1221] from by decide)).trans q2031
                  have q2042 : s2037 177 6 = z1862 := (t_s2037 177 6 (show 1223 ∉ [1219, 1220, 1221] from by decide)).trans q2033
                  have KF_s2037 : KF s2037 s0 := KF.fl KF_j t_s2037 (by decide)
                  show xe none 8 130 [(0, .ref 218), (1, .ref 177), (2, vi x2)] [] s2037 0 0 _
                  have tq2043 := xp_z2036
                  rw [show s2026 178 = s0 178 from funext fun i => f_s2026 178 i (show 1280 ∉ [2501, 2502, 2560, 2688, 2816, 1219, 1220, 1221, 1222, 1223] from by decide), show s2026 177 1 = s0 177 1 from f_s2026 177 1 (show 1218 ∉ [2501, 2502, 2560, 2688, 2816, 1219, 1220, 1221, 1222, 1223] from by decide), show s2026 177 4 = te (s0 178) (s0 177 1) x1003 by omega] at tq2043
                  have TK_s2037 : TKs s2037 := TK.s tq2043 (show s2037 178 = s0 178 from funext fun i => f_s2037 178 i (show 1280 ∉ [2501, 2502, 2560, 2688, 2816, 1219, 1220, 1221, 1222, 1223] from by decide)) (by omega)
                  have nq : s2037 177 3 = nx (s0 178) (s0 177 1) x1003 := tq2043.2.2.1
                  have nr : nx (s0 178) (s0 177 1) x1003 = sk (s0 178) (s0 177 1) (te (s0 178) (s0 177 1) x1003) := rfl
                  obtain ⟨z2044, e_z2044⟩ : ∃ z, z = s2037 177 3 := ⟨_, rfl⟩
                  have g_z2044 : (0 : Int) ≤ s2037 177 3 ∧ s2037 177 3 ≤ 160 := hG_s2037 177 3
                  unfold TK at tq2043
                  refine x_A k8_130 (fun _ => rfl) ?_
                  exact x_zret k8_131 rfl ⟨by omega, by omega⟩ ⟨hG_s2037, f_s2037, 1, rfl, ⟨by omega, by omega⟩, ⟨Or.inl ⟨rfl, by omega, by rw [show s2037 218 5 = x1001 by omega, show s2037 177 3 = nx (s0 178) (s0 177 1) x1003 by omega]; exact (w_2 (by omega)).jn (by omega), ⟨by omega, by omega⟩, by omega, by omega⟩, KF_s2037, fun _ y => by rw [show s2037 218 5 = x1001 by omega, show s2037 177 3 = nx (s0 178) (s0 177 1) x1003 by omega]; exact ((w_9 (by omega) y).jn ⟨by omega, by omega⟩ (by omega) xp_z2025).fl t_s2037 ⟨by omega, by omega⟩ (by decide), fun hz => by exfalso; omega⟩, TK_s2037⟩
              · skip
                refine x_A k8_81 (fun _ => rfl) ?_
                refine x_bipush k8_82 (by decide +kernel) ?_
                refine x_callV k8_84 (y := 10) (n := 1) (w0 := 0) (w1 := 1) (as := [vi 8]) (rest := []) (by decide +kernel) (q := 218) (nq := 7) (kq := 11) ⟨by decide, rfl⟩ rfl rfl rfl rfl (xe_mono (W_X0_joinBy_218 s hG 8 ⟨by omega, by omega⟩ ⟨by omega, by omega⟩) ?_)
                rintro s2046 v ⟨hG_s2046, t_s2046, rfl, xp_z2045⟩
                have f_s2046 : FL [2501, 2502, 2560, 2688, 2816, 1219, 1220, 1221, 1222, 1223] s0 s2046 := f.tr t_s2046 (by decide)
                have q2047 : s2046 177 5 = x1000 := (t_s2046 177 5 (show 1222 ∉ [2501, 2560, 2688, 2816] from by decide)).trans e_x1000.symm
                have q2048 : s2046 218 5 = x1001 := (t_s2046 218 5 (show 2502 ∉ [2501, 2560, 2688, 2816] from by decide)).trans e_x1001.symm
                have q2049 : s2046 177 1 = x1002 := (t_s2046 177 1 (show 1218 ∉ [2501, 2560, 2688, 2816] from by decide)).trans e_x1002.symm
                have q2050 : s2046 177 3 = x1003 := (t_s2046 177 3 (show 1220 ∉ [2501, 2560, 2688, 2816] from by decide)).trans e_x1003.symm
                have q2051 : s2046 218 6 = x1004 := (t_s2046 218 6 (show 2503 ∉ [2501, 2560, 2688, 2816] from by decide)).trans e_x1004.symm
                have q2052 : s2046 177 4 = z1861 := (t_s2046 177 4 (show 1221 ∉ [2501, 2560, 2688, 2816] from by decide)).trans e_z1861.symm
                have q2053 : s2046 177 6 = z1862 := (t_s2046 177 6 (show 1223 ∉ [2501, 2560, 2688, 2816] from by decide)).trans e_z1862.symm
                have q2054 : s2046 177 2 = z2006 := (t_s2046 177 2 (show 1219 ∉ [2501, 2560, 2688, 2816] from by decide)).trans e_z2006.symm
                have TK_s2046 : TKs s2046 := TKs.fl i_TK t_s2046 (by decide)
                show xe none 8 87 [(0, .ref 218), (1, .ref 177), (2, vi x2)] [] s2046 0 0 _
                have KF_j : KF s2046 s0 := w_8.tr (by omega) xp_z2045.1
                refine x_goto k8_87 (t := 117) rfl ?_
                refine x_A k8_117 (fun _ => rfl) ?_
                refine x_getI k8_118 (f := 5) rfl (q := 177) (n := 7) (kd := 7) ⟨by decide, rfl⟩ (by decide) rfl ?_
                refine x_rw (q2047) ?_
                refine x_if_eq k8_121 (t := 126) rfl ⟨by omega, by omega⟩ (fun c2055 => ?_) (fun c2055 => by exfalso; omega)
                refine x_A k8_126 (fun _ => rfl) ?_
                refine x_callV k8_127 (y := 51) (n := 0) (w0 := 0) (w1 := 0) (as := []) (rest := []) (by decide +kernel) (q := 177) (nq := 7) (kq := 7) ⟨by decide, rfl⟩ rfl rfl rfl rfl (xe_mono (E_X6_advance_177 s2046 hG_s2046 (by omega)) ?_)
                rintro s2057 v ⟨hG_s2057, t_s2057, rfl, xp_z2056⟩
                have f_s2057 : FL [2501, 2502, 2560, 2688, 2816, 1219, 1220, 1221, 1222, 1223] s0 s2057 := f_s2046.tr t_s2057 (by decide)
                have q2058 : s2057 177 5 = x1000 := (t_s2057 177 5 (show 1222 ∉ [1219, 1220, 1221] from by decide)).trans q2047
                have q2059 : s2057 218 5 = x1001 := (t_s2057 218 5 (show 2502 ∉ [1219, 1220, 1221] from by decide)).trans q2048
                have q2060 : s2057 177 1 = x1002 := (t_s2057 177 1 (show 1218 ∉ [1219, 1220, 1221] from by decide)).trans q2049
                have q2061 : s2057 218 6 = x1004 := (t_s2057 218 6 (show 2503 ∉ [1219, 1220, 1221] from by decide)).trans q2051
                have q2062 : s2057 177 6 = z1862 := (t_s2057 177 6 (show 1223 ∉ [1219, 1220, 1221] from by decide)).trans q2053
                have KF_s2057 : KF s2057 s0 := KF.fl KF_j t_s2057 (by decide)
                show xe none 8 130 [(0, .ref 218), (1, .ref 177), (2, vi x2)] [] s2057 0 0 _
                have tq2063 := xp_z2056
                rw [show s2046 178 = s0 178 from funext fun i => f_s2046 178 i (show 1280 ∉ [2501, 2502, 2560, 2688, 2816, 1219, 1220, 1221, 1222, 1223] from by decide), show s2046 177 1 = s0 177 1 from f_s2046 177 1 (show 1218 ∉ [2501, 2502, 2560, 2688, 2816, 1219, 1220, 1221, 1222, 1223] from by decide), show s2046 177 4 = te (s0 178) (s0 177 1) x1003 by omega] at tq2063
                have TK_s2057 : TKs s2057 := TK.s tq2063 (show s2057 178 = s0 178 from funext fun i => f_s2057 178 i (show 1280 ∉ [2501, 2502, 2560, 2688, 2816, 1219, 1220, 1221, 1222, 1223] from by decide)) (by omega)
                have nq : s2057 177 3 = nx (s0 178) (s0 177 1) x1003 := tq2063.2.2.1
                have nr : nx (s0 178) (s0 177 1) x1003 = sk (s0 178) (s0 177 1) (te (s0 178) (s0 177 1) x1003) := rfl
                obtain ⟨z2064, e_z2064⟩ : ∃ z, z = s2057 177 3 := ⟨_, rfl⟩
                have g_z2064 : (0 : Int) ≤ s2057 177 3 ∧ s2057 177 3 ≤ 160 := hG_s2057 177 3
                unfold TK at tq2063
                refine x_A k8_130 (fun _ => rfl) ?_
                exact x_zret k8_131 rfl ⟨by omega, by omega⟩ ⟨hG_s2057, f_s2057, 1, rfl, ⟨by omega, by omega⟩, ⟨Or.inl ⟨rfl, by omega, by rw [show s2057 218 5 = x1001 by omega, show s2057 177 3 = nx (s0 178) (s0 177 1) x1003 by omega]; exact (w_2 (by omega)).jn (by omega), ⟨by omega, by omega⟩, by omega, by omega⟩, KF_s2057, fun _ y => by rw [show s2057 218 5 = x1001 by omega, show s2057 177 3 = nx (s0 178) (s0 177 1) x1003 by omega]; exact ((w_9 (by omega) y).jn ⟨by omega, by omega⟩ (by omega) xp_z2045).fl t_s2057 ⟨by omega, by omega⟩ (by decide), fun hz => by exfalso; omega⟩, TK_s2057⟩
            · skip
              refine x_A k8_63 (fun _ => rfl) ?_
              refine x_getI k8_64 (f := 5) rfl (q := 218) (n := 7) (kd := 11) ⟨by decide, rfl⟩ (by decide) rfl ?_
              refine x_rw (e_x1001.symm) ?_
              refine x_if_ne k8_67 (t := 72) rfl ⟨by omega, by omega⟩ (fun c2065 => by exfalso; omega) (fun c2065 => ?_)
              refine x_A k8_70 (fun _ => rfl) ?_
              exact x_zret k8_71 rfl ⟨by omega, by omega⟩ ⟨hG, f, 0, rfl, ⟨by omega, by omega⟩, ⟨Or.inr ⟨rfl, Or.inl ⟨by omega, (w_2 (by omega)).fin (by omega) (by have kc := kd_cs (T := s0 178) (n := s0 177 1) (p := x1003); omega)⟩⟩, w_8, fun hz => by exfalso; omega, fun hz h0 => ⟨by omega, fun y => (w_9 (by omega) y).fin ⟨by omega, by omega⟩ (by omega) (by have kc := kd_cs (T := s0 178) (n := s0 177 1) (p := x1003); omega)⟩⟩, i_TK⟩
