set_option maxHeartbeats 8000000 in
theorem L_E_X0_readUpToOne_218_177_2 (s0 : xS) (pa : s0 177 5 = 0 ∧ s0 177 1 ≤ 100 ∧ 0 ≤ s0 218 5 ∧ s0 218 5 ≤ 5 ∧ 0 ≤ s0 177 3 ∧ s0 177 3 ≤ s0 177 1) (pe : AI (s0 178) (s0 177 1) 1 (s0 218 5) (s0 177 3))  : ∀ (n : Nat) (s : xS) (x2 : Int) (x1000 : Int) (x1001 : Int) (x1002 : Int) (x1003 : Int) (hG : GI s) (f : FL [2501, 2502, 2560, 2688, 2816, 1219, 1220, 1221, 1222, 1223] s0 s) (b_x2 : 0 ≤ x2 ∧ x2 ≤ 100) (b_x1000 : 0 ≤ x1000 ∧ x1000 ≤ 5) (b_x1001 : (-2147483648) ≤ x1001 ∧ x1001 ≤ 2147483647) (b_x1002 : 0 ≤ x1002 ∧ x1002 ≤ 160) (b_x1003 : 0 ≤ x1003 ∧ x1003 ≤ 160) (w_0 : x1002 = s0 177 1 ∧ x1002 ≤ 100) (w_1 : s 178 = s0 178) (w_2 : x1000 = 0 → AI (s0 178) (s0 177 1) 1 x1001 x1003) (w_3 : x1000 ≠ 0 → AF (s0 178) (s0 177 1) x1000 (s 177 6)) (w_4 : 0 ≤ x1001 ∧ x1001 ≤ 6 ∧ (x1000 = 0 → x1001 ≤ 5)) (w_5 : 0 ≤ s0 177 3 ∧ s0 177 3 ≤ x1003 ∧ x2 ≤ x1003 - s0 177 3 ∧ x1003 ≤ x1002) (e_x1000 : x1000 = s 177 5) (e_x1001 : x1001 = s 218 5) (e_x1002 : x1002 = s 177 1) (e_x1003 : x1003 = s 177 3) (i_TK : TKs s)  (hm : (100 - x2) < (n : Int)), xe none 3 2 [(0, .ref 218), (1, .ref 177), (2, vi x2)] [] s 0 0 (fun s' v => GI s' ∧ FL [2501, 2502, 2560, 2688, 2816, 1219, 1220, 1221, 1222, 1223] s0 s' ∧ v = none ∧ ((s' 177 5 = 0 ∧ AI (s0 178) (s0 177 1) 1 (s' 218 5) (s' 177 3) ∧ wv (s0 178) (s0 177 1) (s' 177 3) ≠ 10631 ∧ ch (s0 178) (s0 177 1) (s' 177 3) ≠ 40 ∧ (0 ≤ s' 218 5 ∧ s' 218 5 ≤ 5) ∧ s0 177 3 ≤ s' 177 3) ∨ (s' 177 5 ≠ 0 ∧ AF (s0 178) (s0 177 1) (s' 177 5) (s' 177 6) ∧ (0 ≤ s' 218 5 ∧ s' 218 5 ≤ 6))) ∧ TKs s') := by
  intro n
  induction n with
  | zero => intro s x2 x1000 x1001 x1002 x1003 hG f b_x2 b_x1000 b_x1001 b_x1002 b_x1003 w_0 w_1 w_2 w_3 w_4 w_5 e_x1000 e_x1001 e_x1002 e_x1003 i_TK  hm; exfalso; omega
  | succ n ih =>
    intro s x2 x1000 x1001 x1002 x1003 hG f b_x2 b_x1000 b_x1001 b_x1002 b_x1003 w_0 w_1 w_2 w_3 w_4 w_5 e_x1000 e_x1001 e_x1002 e_x1003 i_TK  hm
    refine x_A k3_2 (fun _ => rfl) ?_
    refine x_bipush k3_3 (by decide +kernel) ?_
    refine x_ic_ge k3_5 (t := 61) rfl (by first | exact x_rb b_x2 rfl rfl | exact ⟨by omega, by omega⟩) ⟨by decide, by decide⟩ (fun c845 => ?_) (fun c845 => ?_)
    · skip
      obtain ⟨z846, e_z846⟩ : ∃ z, z = s 177 6 := ⟨_, rfl⟩
      have g_z846 : (-2147483648) ≤ s 177 6 ∧ s 177 6 ≤ 2147483647 := hG 177 6
      exact x_vret k3_61 rfl ⟨hG, f, rfl, ((Decidable.em (x1000 = 0)).elim (fun ez => Or.inl ⟨by omega, by rw [show s 218 5 = x1001 by omega, show s 177 3 = x1003 by omega]; exact w_2 (by omega), by rw [show s 177 3 = x1003 by omega, wv_0 (by rw [kd_0 (by omega)]; decide)]; decide, by rw [show s 177 3 = x1003 by omega]; unfold ch; rw [if_neg (by omega)]; decide, ⟨by omega, by omega⟩, by omega⟩) (fun ez => Or.inr ⟨by omega, by rw [show s 177 5 = x1000 by omega]; exact w_3 ez, ⟨by omega, by omega⟩⟩)), i_TK⟩
    · skip
      refine x_A k3_8 (fun _ => rfl) ?_
      refine x_getI k3_9 (f := 5) rfl (q := 177) (n := 7) (kd := 7) ⟨by decide, rfl⟩ (by decide) rfl ?_
      refine x_rw (e_x1000.symm) ?_
      refine x_if_ne k3_12 (t := 61) rfl (by first | exact x_rb b_x1000 rfl rfl | exact ⟨by omega, by omega⟩) (fun c847 => ?_) (fun c847 => ?_)
      · skip
        obtain ⟨z848, e_z848⟩ : ∃ z, z = s 177 6 := ⟨_, rfl⟩
        have g_z848 : (-2147483648) ≤ s 177 6 ∧ s 177 6 ≤ 2147483647 := hG 177 6
        exact x_vret k3_61 rfl ⟨hG, f, rfl, ((Decidable.em (x1000 = 0)).elim (fun ez => Or.inl ⟨by omega, by rw [show s 218 5 = x1001 by omega, show s 177 3 = x1003 by omega]; exact w_2 (by omega), by rw [show s 177 3 = x1003 by omega, wv_0 (by rw [kd_0 (by omega)]; decide)]; decide, by rw [show s 177 3 = x1003 by omega]; unfold ch; rw [if_neg (by omega)]; decide, ⟨by omega, by omega⟩, by omega⟩) (fun ez => Or.inr ⟨by omega, by rw [show s 177 5 = x1000 by omega]; exact w_3 ez, ⟨by omega, by omega⟩⟩)), i_TK⟩
      · skip
        have tkL := i_TK
        unfold TKs TK at tkL
        rw [w_1, show s 177 1 = s0 177 1 by omega, show s 177 3 = x1003 by omega] at tkL
        have tlL := te_le (T := s0 178) (n := s0 177 1) (p := x1003)
        have slL := sk_le (T := s0 178) (n := s0 177 1) (p := te (s0 178) (s0 177 1) x1003)
        obtain ⟨z849, e_z849⟩ : ∃ z, z = s 177 4 := ⟨_, rfl⟩
        have g_z849 : (0 : Int) ≤ s 177 4 ∧ s 177 4 ≤ 160 := hG 177 4
        obtain ⟨z850, e_z850⟩ : ∃ z, z = s 177 6 := ⟨_, rfl⟩
        have g_z850 : (-2147483648) ≤ s 177 6 ∧ s 177 6 ≤ 2147483647 := hG 177 6
        refine x_A k3_15 (fun _ => rfl) ?_
        refine x_bipush k3_16 (by decide +kernel) ?_
        refine x_callV k3_18 (y := 54) (n := 1) (w0 := 0) (w1 := 1) (as := [vi 40]) (rest := []) (by decide +kernel) (q := 177) (nq := 7) (kq := 7) ⟨by decide, rfl⟩ rfl rfl rfl rfl (xe_mono (E_X6_isSign_177 s hG 40 ⟨by decide, by decide⟩ (by omega) i_TK) ?_)
        rintro s852 v ⟨-, t_s852, z851, rfl, g_z851, xp_z851⟩
        rw [t_s852.nil]
        try rw [t_s852.nil] at xp_z851
        show xe none 3 21 [(0, .ref 218), (1, .ref 177), (2, vi x2)] [vi z851] s 0 0 _
        have sg := xp_z851
        rw [w_1, show s 177 1 = s0 177 1 by omega, show s 177 3 = x1003 by omega] at sg
        refine x_if_eq k3_21 (t := 32) rfl (by first | exact x_rbe e_z851 g_z851 rfl rfl | exact x_rb g_z851 rfl rfl | exact ⟨by omega, by omega⟩) (fun c853 => ?_) (fun c853 => ?_)
        · skip
          refine x_A k3_32 (fun _ => rfl) ?_
          refine x_ldcR k3_33 (q := 2001) rfl ?_
          refine x_callV k3_35 (y := 53) (n := 1) (w0 := 0) (w1 := 1) (as := [.ref 2001]) (rest := []) (by decide +kernel) (q := 177) (nq := 7) (kq := 7) ⟨by decide, rfl⟩ rfl rfl rfl rfl (xe_mono (E_X6_isWord_177_2001 s hG i_TK) ?_)
          rintro s855 v ⟨-, t_s855, z854, rfl, g_z854, xp_z854⟩
          rw [t_s855.nil]
          try rw [t_s855.nil] at xp_z854
          show xe none 3 38 [(0, .ref 218), (1, .ref 177), (2, vi x2)] [vi z854] s 0 0 _
          have sw := xp_z854
          rw [w_1, show s 177 1 = s0 177 1 by omega, show s 177 3 = x1003 by omega] at sw
          refine x_if_eq k3_38 (t := 50) rfl (by first | exact x_rbe e_z854 g_z854 rfl rfl | exact x_rb g_z854 rfl rfl | exact ⟨by omega, by omega⟩) (fun c856 => ?_) (fun c856 => ?_)
          · skip
            exact x_vret k3_50 rfl ⟨hG, f, rfl, Or.inl ⟨by omega, by rw [show s 218 5 = x1001 by omega, show s 177 3 = x1003 by omega]; exact w_2 (by omega), by rw [show s 177 3 = x1003 by omega]; omega, by rw [show s 177 3 = x1003 by omega]; omega, ⟨by omega, by omega⟩, by omega⟩, i_TK⟩
          · skip
            refine x_A k3_41 (fun _ => rfl) ?_
            refine x_bipush k3_42 (by decide +kernel) ?_
            refine x_callV k3_44 (y := 11) (n := 1) (w0 := 0) (w1 := 1) (as := [vi 9]) (rest := []) (by decide +kernel) (q := 218) (nq := 7) (kq := 11) ⟨by decide, rfl⟩ rfl rfl rfl rfl (xe_mono (C_X0_hold_218 s hG 9 ⟨by decide, by decide⟩) ?_)
            rintro s858 v ⟨hG_s858, t_s858, rfl⟩
            have f_s858 : FL [2501, 2502, 2560, 2688, 2816, 1219, 1220, 1221, 1222, 1223] s0 s858 := f.tr t_s858 (by decide +kernel)
            have q859 : s858 177 5 = x1000 := (t_s858 177 5 (show 1222 ∉ [2501, 2816] from by decide +kernel)).trans e_x1000.symm
            have q860 : s858 218 5 = x1001 := (t_s858 218 5 (show 2502 ∉ [2501, 2816] from by decide +kernel)).trans e_x1001.symm
            have q861 : s858 177 1 = x1002 := (t_s858 177 1 (show 1218 ∉ [2501, 2816] from by decide +kernel)).trans e_x1002.symm
            have q862 : s858 177 3 = x1003 := (t_s858 177 3 (show 1220 ∉ [2501, 2816] from by decide +kernel)).trans e_x1003.symm
            have q863 : s858 177 4 = z849 := (t_s858 177 4 (show 1221 ∉ [2501, 2816] from by decide +kernel)).trans e_z849.symm
            have q864 : s858 177 6 = z850 := (t_s858 177 6 (show 1223 ∉ [2501, 2816] from by decide +kernel)).trans e_z850.symm
            have TK_s858 : TKs s858 := TKs.fl i_TK t_s858 (by decide +kernel)
            show xe none 3 47 [(0, .ref 218), (1, .ref 177), (2, vi x2)] [] s858 0 0 _
            refine x_goto k3_47 (t := 51) rfl ?_
            refine x_A k3_51 (fun _ => rfl) ?_
            have pl := wv_lt (T := s0 178) (n := s0 177 1) (p := x1003) (by omega)
            refine x_callV k3_52 (y := 51) (n := 0) (w0 := 0) (w1 := 0) (as := []) (rest := []) (by decide +kernel) (q := 177) (nq := 7) (kq := 7) ⟨by decide, rfl⟩ rfl rfl rfl rfl (xe_mono (E_X6_advance_177 s858 hG_s858 (by omega)) ?_)
            rintro s866 v ⟨hG_s866, t_s866, rfl, xp_z865⟩
            have f_s866 : FL [2501, 2502, 2560, 2688, 2816, 1219, 1220, 1221, 1222, 1223] s0 s866 := f_s858.tr t_s866 (by decide +kernel)
            have q867 : s866 177 5 = x1000 := (t_s866 177 5 (show 1222 ∉ [1219, 1220, 1221] from by decide +kernel)).trans q859
            have q868 : s866 218 5 = x1001 := (t_s866 218 5 (show 2502 ∉ [1219, 1220, 1221] from by decide +kernel)).trans q860
            have q869 : s866 177 1 = x1002 := (t_s866 177 1 (show 1218 ∉ [1219, 1220, 1221] from by decide +kernel)).trans q861
            have q870 : s866 177 6 = z850 := (t_s866 177 6 (show 1223 ∉ [1219, 1220, 1221] from by decide +kernel)).trans q864
            show xe none 3 55 [(0, .ref 218), (1, .ref 177), (2, vi x2)] [] s866 0 0 _
            have tq871 := xp_z865
            rw [show s858 178 = s0 178 from funext fun i => f_s858 178 i (show 1280 ∉ [2501, 2502, 2560, 2688, 2816, 1219, 1220, 1221, 1222, 1223] from by decide +kernel), show s858 177 1 = s0 177 1 from f_s858 177 1 (show 1218 ∉ [2501, 2502, 2560, 2688, 2816, 1219, 1220, 1221, 1222, 1223] from by decide +kernel), show s858 177 4 = te (s0 178) (s0 177 1) x1003 by omega] at tq871
            have TK_s866 : TKs s866 := TK.s tq871 (show s866 178 = s0 178 from funext fun i => f_s866 178 i (show 1280 ∉ [2501, 2502, 2560, 2688, 2816, 1219, 1220, 1221, 1222, 1223] from by decide +kernel)) (by omega)
            have nq : s866 177 3 = nx (s0 178) (s0 177 1) x1003 := tq871.2.2.1
            have nr : nx (s0 178) (s0 177 1) x1003 = sk (s0 178) (s0 177 1) (te (s0 178) (s0 177 1) x1003) := rfl
            obtain ⟨z872, e_z872⟩ : ∃ z, z = s866 177 3 := ⟨_, rfl⟩
            have g_z872 : (0 : Int) ≤ s866 177 3 ∧ s866 177 3 ≤ 160 := hG_s866 177 3
            unfold TK at tq871
            refine x_iinc k3_55 (ls' := [(2, vi (x2 + 1)), (0, .ref 218), (1, .ref 177)]) rfl (by decide) rfl ?_
            refine x_goto k3_58 (t := 2) rfl ?_
            refine x_ls (l := [(0, .ref 218), (1, .ref 177), (2, vi (x2 + 1))]) (show ([0, 1, 2] : List Nat).Nodup from by decide +kernel) ⟨rfl, rfl, rfl, trivial⟩ ?_
            exact ih s866 (x2 + 1) x1000 x1001 x1002 z872 hG_s866 f_s866 ⟨by omega, by omega⟩ (by first | exact x_rb b_x1000 rfl rfl | exact ⟨by omega, by omega⟩) (by first | exact x_rb b_x1001 rfl rfl | exact ⟨by omega, by omega⟩) (by first | exact x_rb b_x1002 rfl rfl | exact ⟨by omega, by omega⟩) (by first | exact x_rbe e_z872 g_z872 rfl rfl | exact x_rb g_z872 rfl rfl | exact ⟨by omega, by omega⟩) (by omega) (show s866 178 = s0 178 from funext fun i => f_s866 178 i (show 1280 ∉ [2501, 2502, 2560, 2688, 2816, 1219, 1220, 1221, 1222, 1223] from by decide +kernel)) (fun hz => by rw [show x1001 = x1001 by omega, show z872 = nx (s0 178) (s0 177 1) x1003 by omega]; exact (w_2 (by omega)).sn (by omega)) (fun hz => by exfalso; omega) (by omega) (by omega) (q867).symm (q868).symm (q869).symm (e_z872.symm).symm TK_s866  (by omega)
        · skip
          refine x_A k3_24 (fun _ => rfl) ?_
          refine x_A k3_25 (fun _ => rfl) ?_
          refine x_callV k3_26 (y := 4) (n := 1) (w0 := 0) (w1 := 1) (as := [.ref 177]) (rest := []) (by decide +kernel) (q := 218) (nq := 7) (kq := 11) ⟨by decide, rfl⟩ rfl rfl rfl rfl (xe_mono (E_X0_openBracket_218_177 s hG ⟨by omega, by omega⟩) ?_)
          rintro s874 v ⟨hG_s874, t_s874, rfl, xp_z873⟩
          have f_s874 : FL [2501, 2502, 2560, 2688, 2816, 1219, 1220, 1221, 1222, 1223] s0 s874 := f.tr t_s874 (by decide +kernel)
          have q875 : s874 177 1 = x1002 := (t_s874 177 1 (show 1218 ∉ [2501, 2502, 2816, 1222, 1223] from by decide +kernel)).trans e_x1002.symm
          have q876 : s874 177 3 = x1003 := (t_s874 177 3 (show 1220 ∉ [2501, 2502, 2816, 1222, 1223] from by decide +kernel)).trans e_x1003.symm
          have q877 : s874 177 4 = z849 := (t_s874 177 4 (show 1221 ∉ [2501, 2502, 2816, 1222, 1223] from by decide +kernel)).trans e_z849.symm
          have TK_s874 : TKs s874 := TKs.fl i_TK t_s874 (by decide +kernel)
          obtain ⟨z878, e_z878⟩ : ∃ z, z = s874 218 5 := ⟨_, rfl⟩
          have g_z878 : (-2147483648) ≤ s874 218 5 ∧ s874 218 5 ≤ 2147483647 := hG_s874 218 5
          obtain ⟨z879, e_z879⟩ : ∃ z, z = s874 177 5 := ⟨_, rfl⟩
          have g_z879 : (0 : Int) ≤ s874 177 5 ∧ s874 177 5 ≤ 5 := hG_s874 177 5
          obtain ⟨z880, e_z880⟩ : ∃ z, z = s874 177 6 := ⟨_, rfl⟩
          have g_z880 : (-2147483648) ≤ s874 177 6 ∧ s874 177 6 ≤ 2147483647 := hG_s874 177 6
          show xe none 3 29 [(0, .ref 218), (1, .ref 177), (2, vi x2)] [] s874 0 0 _
          refine x_goto k3_29 (t := 51) rfl ?_
          refine x_A k3_51 (fun _ => rfl) ?_
          have pl := (ch_sg (T := s0 178) (n := s0 177 1) (p := x1003) (c := 40) (by omega) (by decide) (by decide) (by decide)).2.2.1
          refine x_callV k3_52 (y := 51) (n := 0) (w0 := 0) (w1 := 0) (as := []) (rest := []) (by decide +kernel) (q := 177) (nq := 7) (kq := 7) ⟨by decide, rfl⟩ rfl rfl rfl rfl (xe_mono (E_X6_advance_177 s874 hG_s874 (by omega)) ?_)
          rintro s882 v ⟨hG_s882, t_s882, rfl, xp_z881⟩
          have f_s882 : FL [2501, 2502, 2560, 2688, 2816, 1219, 1220, 1221, 1222, 1223] s0 s882 := f_s874.tr t_s882 (by decide +kernel)
          have q883 : s882 177 1 = x1002 := (t_s882 177 1 (show 1218 ∉ [1219, 1220, 1221] from by decide +kernel)).trans q875
          have q884 : s882 218 5 = z878 := (t_s882 218 5 (show 2502 ∉ [1219, 1220, 1221] from by decide +kernel)).trans e_z878.symm
          have q885 : s882 177 5 = z879 := (t_s882 177 5 (show 1222 ∉ [1219, 1220, 1221] from by decide +kernel)).trans e_z879.symm
          have q886 : s882 177 6 = z880 := (t_s882 177 6 (show 1223 ∉ [1219, 1220, 1221] from by decide +kernel)).trans e_z880.symm
          show xe none 3 55 [(0, .ref 218), (1, .ref 177), (2, vi x2)] [] s882 0 0 _
          have tq887 := xp_z881
          rw [show s874 178 = s0 178 from funext fun i => f_s874 178 i (show 1280 ∉ [2501, 2502, 2560, 2688, 2816, 1219, 1220, 1221, 1222, 1223] from by decide +kernel), show s874 177 1 = s0 177 1 from f_s874 177 1 (show 1218 ∉ [2501, 2502, 2560, 2688, 2816, 1219, 1220, 1221, 1222, 1223] from by decide +kernel), show s874 177 4 = te (s0 178) (s0 177 1) x1003 by omega] at tq887
          have TK_s882 : TKs s882 := TK.s tq887 (show s882 178 = s0 178 from funext fun i => f_s882 178 i (show 1280 ∉ [2501, 2502, 2560, 2688, 2816, 1219, 1220, 1221, 1222, 1223] from by decide +kernel)) (by omega)
          have nq : s882 177 3 = nx (s0 178) (s0 177 1) x1003 := tq887.2.2.1
          have nr : nx (s0 178) (s0 177 1) x1003 = sk (s0 178) (s0 177 1) (te (s0 178) (s0 177 1) x1003) := rfl
          obtain ⟨z888, e_z888⟩ : ∃ z, z = s882 177 3 := ⟨_, rfl⟩
          have g_z888 : (0 : Int) ≤ s882 177 3 ∧ s882 177 3 ≤ 160 := hG_s882 177 3
          unfold TK at tq887
          refine x_iinc k3_55 (ls' := [(2, vi (x2 + 1)), (0, .ref 218), (1, .ref 177)]) rfl (by decide) rfl ?_
          refine x_goto k3_58 (t := 2) rfl ?_
          refine x_ls (l := [(0, .ref 218), (1, .ref 177), (2, vi (x2 + 1))]) (show ([0, 1, 2] : List Nat).Nodup from by decide +kernel) ⟨rfl, rfl, rfl, trivial⟩ ?_
          exact ih s882 (x2 + 1) z879 z878 x1002 z888 hG_s882 f_s882 ⟨by omega, by omega⟩ (by first | exact x_rbe e_z879 g_z879 rfl rfl | exact x_rb g_z879 rfl rfl | exact ⟨by omega, by omega⟩) (by first | exact x_rbe e_z878 g_z878 rfl rfl | exact x_rb g_z878 rfl rfl | exact ⟨by omega, by omega⟩) (by first | exact x_rb b_x1002 rfl rfl | exact ⟨by omega, by omega⟩) (by first | exact x_rbe e_z888 g_z888 rfl rfl | exact x_rb g_z888 rfl rfl | exact ⟨by omega, by omega⟩) (by omega) (show s882 178 = s0 178 from funext fun i => f_s882 178 i (show 1280 ∉ [2501, 2502, 2560, 2688, 2816, 1219, 1220, 1221, 1222, 1223] from by decide +kernel)) (fun hz => by rw [show z878 = x1001 + 1 by omega, show z888 = nx (s0 178) (s0 177 1) x1003 by omega]; exact (w_2 (by omega)).op (by omega) (by omega)) (fun hz => by rw [show z879 = 5 by omega, show s882 177 6 = x1003 by omega]; exact (w_2 (by omega)).op5 (by omega) (by omega)) (by omega) (by omega) (q885).symm (q884).symm (q883).symm (e_z888.symm).symm TK_s882  (by omega)
set_option maxHeartbeats 8000000 in
theorem E_X0_readUpToOne_218_177 (s0 : xS) (hG0 : GI s0) (pa : s0 177 5 = 0 ∧ s0 177 1 ≤ 100 ∧ 0 ≤ s0 218 5 ∧ s0 218 5 ≤ 5 ∧ 0 ≤ s0 177 3 ∧ s0 177 3 ≤ s0 177 1) (pe : AI (s0 178) (s0 177 1) 1 (s0 218 5) (s0 177 3)) (i0_TK : TKs s0) : xe none 3 0 (lv_args 0 [.ref 218, .ref 177]) [] s0 0 0 (fun s' v => GI s' ∧ FL [2501, 2502, 2560, 2688, 2816, 1219, 1220, 1221, 1222, 1223] s0 s' ∧ v = none ∧ ((s' 177 5 = 0 ∧ AI (s0 178) (s0 177 1) 1 (s' 218 5) (s' 177 3) ∧ wv (s0 178) (s0 177 1) (s' 177 3) ≠ 10631 ∧ ch (s0 178) (s0 177 1) (s' 177 3) ≠ 40 ∧ (0 ≤ s' 218 5 ∧ s' 218 5 ≤ 5) ∧ s0 177 3 ≤ s' 177 3) ∨ (s' 177 5 ≠ 0 ∧ AF (s0 178) (s0 177 1) (s' 177 5) (s' 177 6) ∧ (0 ≤ s' 218 5 ∧ s' 218 5 ≤ 6))) ∧ TKs s') := by
  have f0 : FL [2501, 2502, 2560, 2688, 2816, 1219, 1220, 1221, 1222, 1223] s0 s0 := FL.rf
  show xe none 3 0 [(0, .ref 218), (1, .ref 177)] [] s0 0 0 _
  refine x_A k3_0 (fun _ => rfl) ?_
  refine x_istore_n k3_1 (ls' := [(2, vi 0), (0, .ref 218), (1, .ref 177)]) (by decide) rfl ?_
  obtain ⟨z889, e_z889⟩ : ∃ z, z = s0 177 5 := ⟨_, rfl⟩
  have g_z889 : (0 : Int) ≤ s0 177 5 ∧ s0 177 5 ≤ 5 := hG0 177 5
  obtain ⟨z890, e_z890⟩ : ∃ z, z = s0 218 5 := ⟨_, rfl⟩
  have g_z890 : (-2147483648) ≤ s0 218 5 ∧ s0 218 5 ≤ 2147483647 := hG0 218 5
  obtain ⟨z891, e_z891⟩ : ∃ z, z = s0 177 1 := ⟨_, rfl⟩
  have g_z891 : (0 : Int) ≤ s0 177 1 ∧ s0 177 1 ≤ 160 := hG0 177 1
  obtain ⟨z892, e_z892⟩ : ∃ z, z = s0 177 3 := ⟨_, rfl⟩
  have g_z892 : (0 : Int) ≤ s0 177 3 ∧ s0 177 3 ≤ 160 := hG0 177 3
  refine x_ls (l := [(0, .ref 218), (1, .ref 177), (2, vi 0)]) (show ([0, 1, 2] : List Nat).Nodup from by decide +kernel) ⟨rfl, rfl, rfl, trivial⟩ ?_
  exact L_E_X0_readUpToOne_218_177_2 s0 pa pe  (((100 - 0) + 1 : Int)).toNat s0 0 z889 z890 z891 z892 hG0 f0 ⟨by decide, by decide⟩ (by first | exact x_rbe e_z889 g_z889 rfl rfl | exact x_rb g_z889 rfl rfl | exact ⟨by omega, by omega⟩) (by first | exact x_rbe e_z890 g_z890 rfl rfl | exact x_rb g_z890 rfl rfl | exact ⟨by omega, by omega⟩) (by first | exact x_rbe e_z891 g_z891 rfl rfl | exact x_rb g_z891 rfl rfl | exact ⟨by omega, by omega⟩) (by first | exact x_rbe e_z892 g_z892 rfl rfl | exact x_rb g_z892 rfl rfl | exact ⟨by omega, by omega⟩) (by omega) (show s0 178 = s0 178 from funext fun i => f0 178 i (show 1280 ∉ [2501, 2502, 2560, 2688, 2816, 1219, 1220, 1221, 1222, 1223] from by decide +kernel)) (fun _ => by rw [show z890 = s0 218 5 by omega, show z892 = s0 177 3 by omega]; exact pe) (fun hz => by exfalso; omega) (by omega) (by omega) (e_z889.symm).symm (e_z890.symm).symm (e_z891.symm).symm (e_z892.symm).symm i0_TK  (by omega)
