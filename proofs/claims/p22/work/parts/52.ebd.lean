set_option maxHeartbeats 8000000 in
theorem L_W_X0_readUpToOne_218_177_2 (s0 : xS) (pa : s0 177 5 = 0 ∧ s0 177 1 ≤ 100 ∧ 0 ≤ s0 218 5 ∧ s0 218 5 ≤ 5 ∧ 0 ≤ s0 177 3 ∧ s0 177 3 ≤ s0 177 1) (pe : AI (s0 178) (s0 177 1) 1 (s0 218 5) (s0 177 3))  : ∀ (n : Nat) (s : xS) (x2 : Int) (x1000 : Int) (x1001 : Int) (x1002 : Int) (x1003 : Int) (x1004 : Int) (hG : GI s) (f : FL [2501, 2502, 2816, 1219, 1220, 1221, 1222, 1223] s0 s) (b_x2 : 0 ≤ x2 ∧ x2 ≤ 100) (b_x1000 : 0 ≤ x1000 ∧ x1000 ≤ 5) (b_x1001 : (-2147483648) ≤ x1001 ∧ x1001 ≤ 2147483647) (b_x1002 : 0 ≤ x1002 ∧ x1002 ≤ 160) (b_x1003 : 0 ≤ x1003 ∧ x1003 ≤ 160) (b_x1004 : 0 ≤ x1004 ∧ x1004 ≤ 7) (w_0 : x1002 = s0 177 1 ∧ x1002 ≤ 100) (w_1 : s 178 = s0 178) (w_2 : x1000 = 0 → AI (s0 178) (s0 177 1) 1 x1001 x1003) (w_3 : x1000 ≠ 0 → AF (s0 178) (s0 177 1) x1000 (s 177 6)) (w_4 : 0 ≤ x1001 ∧ x1001 ≤ 6 ∧ (x1000 = 0 → x1001 ≤ 5)) (w_5 : 0 ≤ s0 177 3 ∧ s0 177 3 ≤ x1003 ∧ x2 ≤ x1003 - s0 177 3 ∧ x1003 ≤ x1002) (w_6 : x1004 = s0 218 6 ∧ x1004 ≤ 7) (w_7 : x1000 = 0 → YK (s0 178) (s0 177 1) s0 (s0 218 5) (s0 177 3) → YK (s0 178) (s0 177 1) s x1001 x1003) (e_x1000 : x1000 = s 177 5) (e_x1001 : x1001 = s 218 5) (e_x1002 : x1002 = s 177 1) (e_x1003 : x1003 = s 177 3) (e_x1004 : x1004 = s 218 6) (i_TK : TKs s)  (hm : (100 - x2) < (n : Int)), xe none 3 2 [(0, .ref 218), (1, .ref 177), (2, vi x2)] [] s 0 0 (fun s' v => GI s' ∧ FL [2501, 2502, 2816, 1219, 1220, 1221, 1222, 1223] s0 s' ∧ v = none ∧ (((s' 177 5 = 0 ∧ AI (s0 178) (s0 177 1) 1 (s' 218 5) (s' 177 3) ∧ wv (s0 178) (s0 177 1) (s' 177 3) ≠ 10631 ∧ ch (s0 178) (s0 177 1) (s' 177 3) ≠ 40 ∧ (0 ≤ s' 218 5 ∧ s' 218 5 ≤ 5) ∧ s0 177 3 ≤ s' 177 3) ∨ (s' 177 5 ≠ 0 ∧ AF (s0 178) (s0 177 1) (s' 177 5) (s' 177 6) ∧ (0 ≤ s' 218 5 ∧ s' 218 5 ≤ 6))) ∧ (s' 177 5 = 0 → YK (s0 178) (s0 177 1) s0 (s0 218 5) (s0 177 3) → YK (s0 178) (s0 177 1) s' (s' 218 5) (s' 177 3))) ∧ TKs s') := by
  intro n
  induction n with
  | zero => intro s x2 x1000 x1001 x1002 x1003 x1004 hG f b_x2 b_x1000 b_x1001 b_x1002 b_x1003 b_x1004 w_0 w_1 w_2 w_3 w_4 w_5 w_6 w_7 e_x1000 e_x1001 e_x1002 e_x1003 e_x1004 i_TK  hm; exfalso; omega
  | succ n ih =>
    intro s x2 x1000 x1001 x1002 x1003 x1004 hG f b_x2 b_x1000 b_x1001 b_x1002 b_x1003 b_x1004 w_0 w_1 w_2 w_3 w_4 w_5 w_6 w_7 e_x1000 e_x1001 e_x1002 e_x1003 e_x1004 i_TK  hm
    refine x_A k3_2 (fun _ => rfl) ?_
    refine x_bipush k3_3 (by decide +kernel) ?_
    refine x_ic_ge k3_5 (t := 61) rfl ⟨by omega, by omega⟩ ⟨by omega, by omega⟩ (fun c970 => ?_) (fun c970 => ?_)
    · skip
      obtain ⟨z971, e_z971⟩ : ∃ z, z = s 177 6 := ⟨_, rfl⟩
      have g_z971 : (-2147483648) ≤ s 177 6 ∧ s 177 6 ≤ 2147483647 := hG 177 6
      exact x_vret k3_61 rfl ⟨hG, f, rfl, ⟨((Decidable.em (x1000 = 0)).elim (fun ez => Or.inl ⟨by omega, by rw [show s 218 5 = x1001 by omega, show s 177 3 = x1003 by omega]; exact w_2 (by omega), by rw [show s 177 3 = x1003 by omega, wv_0 (by rw [kd_0 (by omega)]; decide)]; decide, by rw [show s 177 3 = x1003 by omega]; unfold ch; rw [if_neg (by omega)]; decide, ⟨by omega, by omega⟩, by omega⟩) (fun ez => Or.inr ⟨by omega, by rw [show s 177 5 = x1000 by omega]; exact w_3 ez, ⟨by omega, by omega⟩⟩)), fun h0 y => by rw [show s 218 5 = x1001 by omega, show s 177 3 = x1003 by omega]; exact w_7 (by omega) y⟩, i_TK⟩
    · skip
      refine x_A k3_8 (fun _ => rfl) ?_
      refine x_getI k3_9 (f := 5) rfl (q := 177) (n := 7) (kd := 7) ⟨by decide, rfl⟩ (by decide) rfl ?_
      refine x_rw (e_x1000.symm) ?_
      refine x_if_ne k3_12 (t := 61) rfl ⟨by omega, by omega⟩ (fun c972 => ?_) (fun c972 => ?_)
      · skip
        obtain ⟨z973, e_z973⟩ : ∃ z, z = s 177 6 := ⟨_, rfl⟩
        have g_z973 : (-2147483648) ≤ s 177 6 ∧ s 177 6 ≤ 2147483647 := hG 177 6
        exact x_vret k3_61 rfl ⟨hG, f, rfl, ⟨((Decidable.em (x1000 = 0)).elim (fun ez => Or.inl ⟨by omega, by rw [show s 218 5 = x1001 by omega, show s 177 3 = x1003 by omega]; exact w_2 (by omega), by rw [show s 177 3 = x1003 by omega, wv_0 (by rw [kd_0 (by omega)]; decide)]; decide, by rw [show s 177 3 = x1003 by omega]; unfold ch; rw [if_neg (by omega)]; decide, ⟨by omega, by omega⟩, by omega⟩) (fun ez => Or.inr ⟨by omega, by rw [show s 177 5 = x1000 by omega]; exact w_3 ez, ⟨by omega, by omega⟩⟩)), fun h0 y => by rw [show s 218 5 = x1001 by omega, show s 177 3 = x1003 by omega]; exact w_7 (by omega) y⟩, i_TK⟩
      · skip
        have tkL := i_TK
        unfold TKs TK at tkL
        rw [w_1, show s 177 1 = s0 177 1 by omega, show s 177 3 = x1003 by omega] at tkL
        have tlL := te_le (T := s0 178) (n := s0 177 1) (p := x1003)
        have slL := sk_le (T := s0 178) (n := s0 177 1) (p := te (s0 178) (s0 177 1) x1003)
        obtain ⟨z974, e_z974⟩ : ∃ z, z = s 177 4 := ⟨_, rfl⟩
        have g_z974 : (0 : Int) ≤ s 177 4 ∧ s 177 4 ≤ 160 := hG 177 4
        obtain ⟨z975, e_z975⟩ : ∃ z, z = s 177 6 := ⟨_, rfl⟩
        have g_z975 : (-2147483648) ≤ s 177 6 ∧ s 177 6 ≤ 2147483647 := hG 177 6
        refine x_A k3_15 (fun _ => rfl) ?_
        refine x_bipush k3_16 (by decide +kernel) ?_
        refine x_callV k3_18 (y := 54) (n := 1) (w0 := 0) (w1 := 1) (as := [vi 40]) (rest := []) (by decide +kernel) (q := 177) (nq := 7) (kq := 7) ⟨by decide, rfl⟩ rfl rfl rfl rfl (xe_mono (E_X6_isSign_177 s hG 40 ⟨by omega, by omega⟩ (by omega) i_TK) ?_)
        rintro s977 v ⟨-, t_s977, z976, rfl, g_z976, xp_z976⟩
        rw [t_s977.nil]
        try rw [t_s977.nil] at xp_z976
        show xe none 3 21 [(0, .ref 218), (1, .ref 177), (2, vi x2)] [vi z976] s 0 0 _
        have sg := xp_z976
        rw [w_1, show s 177 1 = s0 177 1 by omega, show s 177 3 = x1003 by omega] at sg
        refine x_if_eq k3_21 (t := 32) rfl ⟨by omega, by omega⟩ (fun c978 => ?_) (fun c978 => ?_)
        · skip
          refine x_A k3_32 (fun _ => rfl) ?_
          refine x_ldcR k3_33 (q := 2001) rfl ?_
          refine x_callV k3_35 (y := 53) (n := 1) (w0 := 0) (w1 := 1) (as := [.ref 2001]) (rest := []) (by decide +kernel) (q := 177) (nq := 7) (kq := 7) ⟨by decide, rfl⟩ rfl rfl rfl rfl (xe_mono (E_X6_isWord_177_2001 s hG i_TK) ?_)
          rintro s980 v ⟨-, t_s980, z979, rfl, g_z979, xp_z979⟩
          rw [t_s980.nil]
          try rw [t_s980.nil] at xp_z979
          show xe none 3 38 [(0, .ref 218), (1, .ref 177), (2, vi x2)] [vi z979] s 0 0 _
          have sw := xp_z979
          rw [w_1, show s 177 1 = s0 177 1 by omega, show s 177 3 = x1003 by omega] at sw
          refine x_if_eq k3_38 (t := 50) rfl ⟨by omega, by omega⟩ (fun c981 => ?_) (fun c981 => ?_)
          · skip
            exact x_vret k3_50 rfl ⟨hG, f, rfl, ⟨Or.inl ⟨by omega, by rw [show s 218 5 = x1001 by omega, show s 177 3 = x1003 by omega]; exact w_2 (by omega), by rw [show s 177 3 = x1003 by omega]; omega, by rw [show s 177 3 = x1003 by omega]; omega, ⟨by omega, by omega⟩, by omega⟩, fun h0 y => by rw [show s 218 5 = x1001 by omega, show s 177 3 = x1003 by omega]; exact w_7 (by omega) y⟩, i_TK⟩
          · skip
            refine x_A k3_41 (fun _ => rfl) ?_
            refine x_bipush k3_42 (by decide +kernel) ?_
            refine x_callV k3_44 (y := 11) (n := 1) (w0 := 0) (w1 := 1) (as := [vi 9]) (rest := []) (by decide +kernel) (q := 218) (nq := 7) (kq := 11) ⟨by decide, rfl⟩ rfl rfl rfl rfl (xe_mono (W_X0_hold_218 s hG 9 ⟨by omega, by omega⟩) ?_)
            rintro s983 v ⟨hG_s983, t_s983, rfl, xp_z982⟩
            have f_s983 : FL [2501, 2502, 2816, 1219, 1220, 1221, 1222, 1223] s0 s983 := f.tr t_s983 (by decide)
            have q984 : s983 177 5 = x1000 := (t_s983 177 5 (show 1222 ∉ [2501, 2816] from by decide)).trans e_x1000.symm
            have q985 : s983 218 5 = x1001 := (t_s983 218 5 (show 2502 ∉ [2501, 2816] from by decide)).trans e_x1001.symm
            have q986 : s983 177 1 = x1002 := (t_s983 177 1 (show 1218 ∉ [2501, 2816] from by decide)).trans e_x1002.symm
            have q987 : s983 177 3 = x1003 := (t_s983 177 3 (show 1220 ∉ [2501, 2816] from by decide)).trans e_x1003.symm
            have q988 : s983 218 6 = x1004 := (t_s983 218 6 (show 2503 ∉ [2501, 2816] from by decide)).trans e_x1004.symm
            have q989 : s983 177 4 = z974 := (t_s983 177 4 (show 1221 ∉ [2501, 2816] from by decide)).trans e_z974.symm
            have q990 : s983 177 6 = z975 := (t_s983 177 6 (show 1223 ∉ [2501, 2816] from by decide)).trans e_z975.symm
            have TK_s983 : TKs s983 := TKs.fl i_TK t_s983 (by decide)
            obtain ⟨z991, e_z991⟩ : ∃ z, z = s983 218 4 := ⟨_, rfl⟩
            have g_z991 : (0 : Int) ≤ s983 218 4 ∧ s983 218 4 ≤ 100 := hG_s983 218 4
            show xe none 3 47 [(0, .ref 218), (1, .ref 177), (2, vi x2)] [] s983 0 0 _
            refine x_goto k3_47 (t := 51) rfl ?_
            refine x_A k3_51 (fun _ => rfl) ?_
            have pl := wv_lt (T := s0 178) (n := s0 177 1) (p := x1003) (by omega)
            refine x_callV k3_52 (y := 51) (n := 0) (w0 := 0) (w1 := 0) (as := []) (rest := []) (by decide +kernel) (q := 177) (nq := 7) (kq := 7) ⟨by decide, rfl⟩ rfl rfl rfl rfl (xe_mono (E_X6_advance_177 s983 hG_s983 (by omega)) ?_)
            rintro s993 v ⟨hG_s993, t_s993, rfl, xp_z992⟩
            have f_s993 : FL [2501, 2502, 2816, 1219, 1220, 1221, 1222, 1223] s0 s993 := f_s983.tr t_s993 (by decide)
            have q994 : s993 177 5 = x1000 := (t_s993 177 5 (show 1222 ∉ [1219, 1220, 1221] from by decide)).trans q984
            have q995 : s993 218 5 = x1001 := (t_s993 218 5 (show 2502 ∉ [1219, 1220, 1221] from by decide)).trans q985
            have q996 : s993 177 1 = x1002 := (t_s993 177 1 (show 1218 ∉ [1219, 1220, 1221] from by decide)).trans q986
            have q997 : s993 218 6 = x1004 := (t_s993 218 6 (show 2503 ∉ [1219, 1220, 1221] from by decide)).trans q988
            have q998 : s993 177 6 = z975 := (t_s993 177 6 (show 1223 ∉ [1219, 1220, 1221] from by decide)).trans q990
            have q999 : s993 218 4 = z991 := (t_s993 218 4 (show 2501 ∉ [1219, 1220, 1221] from by decide)).trans e_z991.symm
            show xe none 3 55 [(0, .ref 218), (1, .ref 177), (2, vi x2)] [] s993 0 0 _
            have tq1000 := xp_z992
            rw [show s983 178 = s0 178 from funext fun i => f_s983 178 i (show 1280 ∉ [2501, 2502, 2816, 1219, 1220, 1221, 1222, 1223] from by decide), show s983 177 1 = s0 177 1 from f_s983 177 1 (show 1218 ∉ [2501, 2502, 2816, 1219, 1220, 1221, 1222, 1223] from by decide), show s983 177 4 = te (s0 178) (s0 177 1) x1003 by omega] at tq1000
            have TK_s993 : TKs s993 := TK.s tq1000 (show s993 178 = s0 178 from funext fun i => f_s993 178 i (show 1280 ∉ [2501, 2502, 2816, 1219, 1220, 1221, 1222, 1223] from by decide)) (by omega)
            have nq : s993 177 3 = nx (s0 178) (s0 177 1) x1003 := tq1000.2.2.1
            have nr : nx (s0 178) (s0 177 1) x1003 = sk (s0 178) (s0 177 1) (te (s0 178) (s0 177 1) x1003) := rfl
            obtain ⟨z1001, e_z1001⟩ : ∃ z, z = s993 177 3 := ⟨_, rfl⟩
            have g_z1001 : (0 : Int) ≤ s993 177 3 ∧ s993 177 3 ≤ 160 := hG_s993 177 3
            unfold TK at tq1000
            refine x_iinc k3_55 (ls' := [(2, vi (x2 + 1)), (0, .ref 218), (1, .ref 177)]) rfl (by decide) rfl ?_
            refine x_goto k3_58 (t := 2) rfl ?_
            refine x_ls (l := [(0, .ref 218), (1, .ref 177), (2, vi (x2 + 1))]) (show ([0, 1, 2] : List Nat).Nodup from by decide) ⟨rfl, rfl, rfl, trivial⟩ ?_
            exact ih s993 (x2 + 1) x1000 x1001 x1002 z1001 x1004 hG_s993 f_s993 ⟨by omega, by omega⟩ ⟨by omega, by omega⟩ ⟨by omega, by omega⟩ ⟨by omega, by omega⟩ ⟨by omega, by omega⟩ ⟨by omega, by omega⟩ (by omega) (show s993 178 = s0 178 from funext fun i => f_s993 178 i (show 1280 ∉ [2501, 2502, 2816, 1219, 1220, 1221, 1222, 1223] from by decide)) (fun hz => by rw [show x1001 = x1001 by omega, show z1001 = nx (s0 178) (s0 177 1) x1003 by omega]; exact (w_2 (by omega)).sn (by omega)) (fun hz => by exfalso; omega) (by omega) (by omega) (by omega) (fun hz y => by rw [show x1001 = x1001 by omega, show z1001 = nx (s0 178) (s0 177 1) x1003 by omega]; exact ((w_7 (by omega) y).sn ⟨by omega, by omega⟩ ⟨by omega, by omega⟩ (by omega) xp_z982 t_s983).fl t_s993 ⟨by omega, by omega⟩ (by decide)) (q994).symm (q995).symm (q996).symm (e_z1001.symm).symm (q997).symm TK_s993  (by omega)
        · skip
          refine x_A k3_24 (fun _ => rfl) ?_
          refine x_A k3_25 (fun _ => rfl) ?_
          refine x_callV k3_26 (y := 4) (n := 1) (w0 := 0) (w1 := 1) (as := [.ref 177]) (rest := []) (by decide +kernel) (q := 218) (nq := 7) (kq := 11) ⟨by decide, rfl⟩ rfl rfl rfl rfl (xe_mono (W_X0_openBracket_218_177 s hG ⟨by omega, by omega⟩ ⟨by omega, by omega⟩) ?_)
          rintro s1003 v ⟨hG_s1003, t_s1003, rfl, xp_z1002⟩
          have f_s1003 : FL [2501, 2502, 2816, 1219, 1220, 1221, 1222, 1223] s0 s1003 := f.tr t_s1003 (by decide)
          have q1004 : s1003 177 1 = x1002 := (t_s1003 177 1 (show 1218 ∉ [2501, 2502, 2816, 1222, 1223] from by decide)).trans e_x1002.symm
          have q1005 : s1003 177 3 = x1003 := (t_s1003 177 3 (show 1220 ∉ [2501, 2502, 2816, 1222, 1223] from by decide)).trans e_x1003.symm
          have q1006 : s1003 218 6 = x1004 := (t_s1003 218 6 (show 2503 ∉ [2501, 2502, 2816, 1222, 1223] from by decide)).trans e_x1004.symm
          have q1007 : s1003 177 4 = z974 := (t_s1003 177 4 (show 1221 ∉ [2501, 2502, 2816, 1222, 1223] from by decide)).trans e_z974.symm
          have TK_s1003 : TKs s1003 := TKs.fl i_TK t_s1003 (by decide)
          obtain ⟨z1008, e_z1008⟩ : ∃ z, z = s1003 218 5 := ⟨_, rfl⟩
          have g_z1008 : (-2147483648) ≤ s1003 218 5 ∧ s1003 218 5 ≤ 2147483647 := hG_s1003 218 5
          obtain ⟨z1009, e_z1009⟩ : ∃ z, z = s1003 177 5 := ⟨_, rfl⟩
          have g_z1009 : (0 : Int) ≤ s1003 177 5 ∧ s1003 177 5 ≤ 5 := hG_s1003 177 5
          obtain ⟨z1010, e_z1010⟩ : ∃ z, z = s1003 177 6 := ⟨_, rfl⟩
          have g_z1010 : (-2147483648) ≤ s1003 177 6 ∧ s1003 177 6 ≤ 2147483647 := hG_s1003 177 6
          show xe none 3 29 [(0, .ref 218), (1, .ref 177), (2, vi x2)] [] s1003 0 0 _
          obtain ⟨xo_z1002, xn_z1002⟩ := xp_z1002
          refine x_goto k3_29 (t := 51) rfl ?_
          refine x_A k3_51 (fun _ => rfl) ?_
          have pl := (ch_sg (T := s0 178) (n := s0 177 1) (p := x1003) (c := 40) (by omega) (by decide) (by decide) (by decide)).2.2.1
          refine x_callV k3_52 (y := 51) (n := 0) (w0 := 0) (w1 := 0) (as := []) (rest := []) (by decide +kernel) (q := 177) (nq := 7) (kq := 7) ⟨by decide, rfl⟩ rfl rfl rfl rfl (xe_mono (E_X6_advance_177 s1003 hG_s1003 (by omega)) ?_)
          rintro s1012 v ⟨hG_s1012, t_s1012, rfl, xp_z1011⟩
          have f_s1012 : FL [2501, 2502, 2816, 1219, 1220, 1221, 1222, 1223] s0 s1012 := f_s1003.tr t_s1012 (by decide)
          have q1013 : s1012 177 1 = x1002 := (t_s1012 177 1 (show 1218 ∉ [1219, 1220, 1221] from by decide)).trans q1004
          have q1014 : s1012 218 6 = x1004 := (t_s1012 218 6 (show 2503 ∉ [1219, 1220, 1221] from by decide)).trans q1006
          have q1015 : s1012 218 5 = z1008 := (t_s1012 218 5 (show 2502 ∉ [1219, 1220, 1221] from by decide)).trans e_z1008.symm
          have q1016 : s1012 177 5 = z1009 := (t_s1012 177 5 (show 1222 ∉ [1219, 1220, 1221] from by decide)).trans e_z1009.symm
          have q1017 : s1012 177 6 = z1010 := (t_s1012 177 6 (show 1223 ∉ [1219, 1220, 1221] from by decide)).trans e_z1010.symm
          show xe none 3 55 [(0, .ref 218), (1, .ref 177), (2, vi x2)] [] s1012 0 0 _
          have tq1018 := xp_z1011
          rw [show s1003 178 = s0 178 from funext fun i => f_s1003 178 i (show 1280 ∉ [2501, 2502, 2816, 1219, 1220, 1221, 1222, 1223] from by decide), show s1003 177 1 = s0 177 1 from f_s1003 177 1 (show 1218 ∉ [2501, 2502, 2816, 1219, 1220, 1221, 1222, 1223] from by decide), show s1003 177 4 = te (s0 178) (s0 177 1) x1003 by omega] at tq1018
          have TK_s1012 : TKs s1012 := TK.s tq1018 (show s1012 178 = s0 178 from funext fun i => f_s1012 178 i (show 1280 ∉ [2501, 2502, 2816, 1219, 1220, 1221, 1222, 1223] from by decide)) (by omega)
          have nq : s1012 177 3 = nx (s0 178) (s0 177 1) x1003 := tq1018.2.2.1
          have nr : nx (s0 178) (s0 177 1) x1003 = sk (s0 178) (s0 177 1) (te (s0 178) (s0 177 1) x1003) := rfl
          obtain ⟨z1019, e_z1019⟩ : ∃ z, z = s1012 177 3 := ⟨_, rfl⟩
          have g_z1019 : (0 : Int) ≤ s1012 177 3 ∧ s1012 177 3 ≤ 160 := hG_s1012 177 3
          unfold TK at tq1018
          refine x_iinc k3_55 (ls' := [(2, vi (x2 + 1)), (0, .ref 218), (1, .ref 177)]) rfl (by decide) rfl ?_
          refine x_goto k3_58 (t := 2) rfl ?_
          refine x_ls (l := [(0, .ref 218), (1, .ref 177), (2, vi (x2 + 1))]) (show ([0, 1, 2] : List Nat).Nodup from by decide) ⟨rfl, rfl, rfl, trivial⟩ ?_
          exact ih s1012 (x2 + 1) z1009 z1008 x1002 z1019 x1004 hG_s1012 f_s1012 ⟨by omega, by omega⟩ ⟨by omega, by omega⟩ ⟨by omega, by omega⟩ ⟨by omega, by omega⟩ ⟨by omega, by omega⟩ ⟨by omega, by omega⟩ (by omega) (show s1012 178 = s0 178 from funext fun i => f_s1012 178 i (show 1280 ∉ [2501, 2502, 2816, 1219, 1220, 1221, 1222, 1223] from by decide)) (fun hz => by rw [show z1008 = x1001 + 1 by omega, show z1019 = nx (s0 178) (s0 177 1) x1003 by omega]; exact (w_2 (by omega)).op (by omega) (by omega)) (fun hz => by rw [show z1009 = 5 by omega, show s1012 177 6 = x1003 by omega]; exact (w_2 (by omega)).op5 (by omega) (by omega)) (by omega) (by omega) (by omega) (fun hz y => by rw [show z1008 = x1001 + 1 by omega, show z1019 = nx (s0 178) (s0 177 1) x1003 by omega]; exact ((w_7 (by omega) y).op ⟨by omega, by omega⟩ (by omega) (by omega) xn_z1002).fl t_s1012 ⟨by omega, by omega⟩ (by decide)) (q1016).symm (q1015).symm (q1013).symm (e_z1019.symm).symm (q1014).symm TK_s1012  (by omega)
set_option maxHeartbeats 8000000 in
theorem W_X0_readUpToOne_218_177 (s0 : xS) (hG0 : GI s0) (p_218_6 : 0 ≤ s0 218 6 ∧ s0 218 6 ≤ 7) (pa : s0 177 5 = 0 ∧ s0 177 1 ≤ 100 ∧ 0 ≤ s0 218 5 ∧ s0 218 5 ≤ 5 ∧ 0 ≤ s0 177 3 ∧ s0 177 3 ≤ s0 177 1) (pe : AI (s0 178) (s0 177 1) 1 (s0 218 5) (s0 177 3)) (i0_TK : TKs s0) : xe none 3 0 (lv_args 0 [.ref 218, .ref 177]) [] s0 0 0 (fun s' v => GI s' ∧ FL [2501, 2502, 2816, 1219, 1220, 1221, 1222, 1223] s0 s' ∧ v = none ∧ (((s' 177 5 = 0 ∧ AI (s0 178) (s0 177 1) 1 (s' 218 5) (s' 177 3) ∧ wv (s0 178) (s0 177 1) (s' 177 3) ≠ 10631 ∧ ch (s0 178) (s0 177 1) (s' 177 3) ≠ 40 ∧ (0 ≤ s' 218 5 ∧ s' 218 5 ≤ 5) ∧ s0 177 3 ≤ s' 177 3) ∨ (s' 177 5 ≠ 0 ∧ AF (s0 178) (s0 177 1) (s' 177 5) (s' 177 6) ∧ (0 ≤ s' 218 5 ∧ s' 218 5 ≤ 6))) ∧ (s' 177 5 = 0 → YK (s0 178) (s0 177 1) s0 (s0 218 5) (s0 177 3) → YK (s0 178) (s0 177 1) s' (s' 218 5) (s' 177 3))) ∧ TKs s') := by
  have f0 : FL [2501, 2502, 2816, 1219, 1220, 1221, 1222, 1223] s0 s0 := FL.rf
  show xe none 3 0 [(0, .ref 218), (1, .ref 177)] [] s0 0 0 _
  obtain ⟨z1020, e_z1020⟩ : ∃ z, z = s0 218 6 := ⟨_, rfl⟩
  have g_z1020 : (0 : Int) ≤ s0 218 6 ∧ s0 218 6 ≤ 8 := hG0 218 6
  refine x_A k3_0 (fun _ => rfl) ?_
  refine x_istore_n k3_1 (ls' := [(2, vi 0), (0, .ref 218), (1, .ref 177)]) (by decide) rfl ?_
  obtain ⟨z1021, e_z1021⟩ : ∃ z, z = s0 177 5 := ⟨_, rfl⟩
  have g_z1021 : (0 : Int) ≤ s0 177 5 ∧ s0 177 5 ≤ 5 := hG0 177 5
  obtain ⟨z1022, e_z1022⟩ : ∃ z, z = s0 218 5 := ⟨_, rfl⟩
  have g_z1022 : (-2147483648) ≤ s0 218 5 ∧ s0 218 5 ≤ 2147483647 := hG0 218 5
  obtain ⟨z1023, e_z1023⟩ : ∃ z, z = s0 177 1 := ⟨_, rfl⟩
  have g_z1023 : (0 : Int) ≤ s0 177 1 ∧ s0 177 1 ≤ 160 := hG0 177 1
  obtain ⟨z1024, e_z1024⟩ : ∃ z, z = s0 177 3 := ⟨_, rfl⟩
  have g_z1024 : (0 : Int) ≤ s0 177 3 ∧ s0 177 3 ≤ 160 := hG0 177 3
  refine x_ls (l := [(0, .ref 218), (1, .ref 177), (2, vi 0)]) (show ([0, 1, 2] : List Nat).Nodup from by decide) ⟨rfl, rfl, rfl, trivial⟩ ?_
  exact L_W_X0_readUpToOne_218_177_2 s0 pa pe  (((100 - 0) + 1 : Int)).toNat s0 0 z1021 z1022 z1023 z1024 z1020 hG0 f0 ⟨by omega, by omega⟩ ⟨by omega, by omega⟩ ⟨by omega, by omega⟩ ⟨by omega, by omega⟩ ⟨by omega, by omega⟩ ⟨by omega, by omega⟩ (by omega) (show s0 178 = s0 178 from funext fun i => f0 178 i (show 1280 ∉ [2501, 2502, 2816, 1219, 1220, 1221, 1222, 1223] from by decide)) (fun _ => by rw [show z1022 = s0 218 5 by omega, show z1024 = s0 177 3 by omega]; exact pe) (fun hz => by exfalso; omega) (by omega) (by omega) (by omega) (fun _ y => by rw [show z1022 = s0 218 5 by omega, show z1024 = s0 177 3 by omega]; exact y) (e_z1021.symm).symm (e_z1022.symm).symm (e_z1023.symm).symm (e_z1024.symm).symm (e_z1020.symm).symm i0_TK  (by omega)
