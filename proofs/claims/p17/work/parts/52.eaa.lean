set_option maxHeartbeats 8000000 in
theorem E_X6_byteAt_177 (s0 : xS) (hG0 : GI s0) (a : Int) (b_a : (-2147483648) ≤ a ∧ a ≤ 2147483647) : xe none 49 0 (lv_args 0 [.ref 177, vi a]) [] s0 0 0 (fun s' v => s' = s0 ∧ ∃ z, v = some (vi z) ∧ ((0 ≤ a ∧ a < s0 177 1 ∧ z = s0 178 a.toNat ∧ 0 ≤ z) ∨ (¬ (0 ≤ a ∧ a < s0 177 1) ∧ z = -1)) ∧ -1 ≤ z ∧ z ≤ 255) := by
  have f0 : FL [] s0 s0 := FL.rf
  show xe none 49 0 [(0, .ref 177), (1, vi a)] [] s0 0 0 _
  refine x_A k49_0 (fun _ => rfl) ?_
  refine x_if_lt k49_1 (t := 21) rfl (by first | exact x_rb b_a rfl rfl | exact ⟨by omega, by omega⟩) (fun c1 => ?_) (fun c1 => ?_)
  · skip
    refine x_A k49_21 (fun _ => rfl) ?_
    exact x_iret k49_22 rfl ⟨rfl, (-1), rfl, by omega⟩
  · skip
    refine x_A k49_4 (fun _ => rfl) ?_
    refine x_A k49_5 (fun _ => rfl) ?_
    refine x_getI k49_6 (f := 1) rfl (q := 177) (n := 7) (kd := 7) ⟨by decide, rfl⟩ (by decide) rfl ?_
    refine x_top (fun z2 e_z2 => ?_)
    have g_z2 : (0 : Int) ≤ s0 177 1 ∧ s0 177 1 ≤ 160 := hG0 177 1
    refine x_ic_ge k49_9 (t := 21) rfl (by first | exact x_rb b_a rfl rfl | exact ⟨by omega, by omega⟩) (by first | exact x_rbe e_z2 g_z2 rfl rfl | exact x_rb g_z2 rfl rfl | exact ⟨by omega, by omega⟩) (fun c3 => ?_) (fun c3 => ?_)
    · skip
      refine x_A k49_21 (fun _ => rfl) ?_
      exact x_iret k49_22 rfl ⟨rfl, (-1), rfl, by omega⟩
    · skip
      refine x_A k49_12 (fun _ => rfl) ?_
      refine x_getR k49_13 (f := 0) rfl (q := 177) (n := 7) (kd := 7) ⟨by decide, rfl⟩ (q2 := 178) (by decide) rfl ?_
      refine x_A k49_16 (fun _ => rfl) ?_
      refine x_iald k49_17 (q := 178) (n := 160) ⟨by decide, rfl⟩ (by decide) (by first | exact x_rbl b_a rfl rfl | exact ⟨by omega, by omega⟩) ?_
      refine x_top (fun z4 e_z4 => ?_)
      have g_z4 : (0 : Int) ≤ s0 178 a.toNat ∧ s0 178 a.toNat ≤ 255 := hG0 178 a.toNat
      refine x_goto k49_18 (t := 22) rfl ?_
      exact x_iret k49_22 rfl ⟨rfl, z4, rfl, by omega⟩
set_option maxHeartbeats 8000000 in
theorem E_X6_kindOf (s0 : xS) (hG0 : GI s0) (a : Int) (b_a : (-2147483648) ≤ a ∧ a ≤ 2147483647) : xe none 50 0 (lv_args 0 [vi a]) [] s0 0 0 (fun s' v => s' = s0 ∧ ∃ z, v = some (vi z) ∧ ((a = -1 ∧ z = 0) ∨ (a ≠ -1 ∧ (97 ≤ a ∧ a ≤ 122) ∧ z = 1) ∨ (a ≠ -1 ∧ (48 ≤ a ∧ a ≤ 57) ∧ z = 2) ∨ (a ≠ -1 ∧ ¬ (97 ≤ a ∧ a ≤ 122) ∧ ¬ (48 ≤ a ∧ a ≤ 57) ∧ z = 3)) ∧ 0 ≤ z ∧ z ≤ 3) := by
  have f0 : FL [] s0 s0 := FL.rf
  show xe none 50 0 [(0, vi a)] [] s0 0 0 _
  refine x_A k50_0 (fun _ => rfl) ?_
  refine x_A k50_1 (fun _ => rfl) ?_
  refine x_ic_ne k50_2 (t := 7) rfl (by first | exact x_rb b_a rfl rfl | exact ⟨by omega, by omega⟩) ⟨by decide, by decide⟩ (fun c1 => ?_) (fun c1 => ?_)
  · skip
    refine x_A k50_7 (fun _ => rfl) ?_
    refine x_bipush k50_8 (by decide +kernel) ?_
    refine x_ic_lt k50_10 (t := 21) rfl (by first | exact x_rb b_a rfl rfl | exact ⟨by omega, by omega⟩) ⟨by decide, by decide⟩ (fun c2 => ?_) (fun c2 => ?_)
    · skip
      refine x_A k50_21 (fun _ => rfl) ?_
      refine x_bipush k50_22 (by decide +kernel) ?_
      refine x_ic_lt k50_24 (t := 35) rfl (by first | exact x_rb b_a rfl rfl | exact ⟨by omega, by omega⟩) ⟨by decide, by decide⟩ (fun c3 => ?_) (fun c3 => ?_)
      · skip
        refine x_A k50_35 (fun _ => rfl) ?_
        exact x_iret k50_36 rfl ⟨rfl, 3, rfl, by omega⟩
      · skip
        refine x_A k50_27 (fun _ => rfl) ?_
        refine x_bipush k50_28 (by decide +kernel) ?_
        refine x_ic_gt k50_30 (t := 35) rfl (by first | exact x_rb b_a rfl rfl | exact ⟨by omega, by omega⟩) ⟨by decide, by decide⟩ (fun c4 => ?_) (fun c4 => ?_)
        · skip
          refine x_A k50_35 (fun _ => rfl) ?_
          exact x_iret k50_36 rfl ⟨rfl, 3, rfl, by omega⟩
        · skip
          refine x_A k50_33 (fun _ => rfl) ?_
          exact x_iret k50_34 rfl ⟨rfl, 2, rfl, by omega⟩
    · skip
      refine x_A k50_13 (fun _ => rfl) ?_
      refine x_bipush k50_14 (by decide +kernel) ?_
      refine x_ic_gt k50_16 (t := 21) rfl (by first | exact x_rb b_a rfl rfl | exact ⟨by omega, by omega⟩) ⟨by decide, by decide⟩ (fun c5 => ?_) (fun c5 => ?_)
      · skip
        refine x_A k50_21 (fun _ => rfl) ?_
        refine x_bipush k50_22 (by decide +kernel) ?_
        refine x_ic_lt k50_24 (t := 35) rfl (by first | exact x_rb b_a rfl rfl | exact ⟨by omega, by omega⟩) ⟨by decide, by decide⟩ (fun c6 => by exfalso; omega) (fun c6 => ?_)
        refine x_A k50_27 (fun _ => rfl) ?_
        refine x_bipush k50_28 (by decide +kernel) ?_
        refine x_ic_gt k50_30 (t := 35) rfl (by first | exact x_rb b_a rfl rfl | exact ⟨by omega, by omega⟩) ⟨by decide, by decide⟩ (fun c7 => ?_) (fun c7 => by exfalso; omega)
        refine x_A k50_35 (fun _ => rfl) ?_
        exact x_iret k50_36 rfl ⟨rfl, 3, rfl, by omega⟩
      · skip
        refine x_A k50_19 (fun _ => rfl) ?_
        exact x_iret k50_20 rfl ⟨rfl, 1, rfl, by omega⟩
  · skip
    refine x_A k50_5 (fun _ => rfl) ?_
    exact x_iret k50_6 rfl ⟨rfl, 0, rfl, by omega⟩
set_option maxHeartbeats 8000000 in
theorem E_X6_fail_177 (s0 : xS) (hG0 : GI s0) (a : Int) (b_a : 1 ≤ a ∧ a ≤ 5) (b : Int) (b_b : (-2147483648) ≤ b ∧ b ≤ 2147483647) : xe none 52 0 (lv_args 0 [.ref 177, vi a, vi b]) [] s0 0 0 (fun s' v => GI s' ∧ FL [1222, 1223] s0 s' ∧ v = none ∧ ((s0 177 5 ≠ 0 ∧ s' 177 5 = s0 177 5 ∧ s' 177 6 = s0 177 6) ∨ (s0 177 5 = 0 ∧ s' 177 5 = a ∧ s' 177 6 = b))) := by
  have f0 : FL [1222, 1223] s0 s0 := FL.rf
  show xe none 52 0 [(0, .ref 177), (1, vi a), (2, vi b)] [] s0 0 0 _
  refine x_A k52_0 (fun _ => rfl) ?_
  refine x_getI k52_1 (f := 5) rfl (q := 177) (n := 7) (kd := 7) ⟨by decide, rfl⟩ (by decide) rfl ?_
  refine x_top (fun z1 e_z1 => ?_)
  have g_z1 : (0 : Int) ≤ s0 177 5 ∧ s0 177 5 ≤ 5 := hG0 177 5
  refine x_if_eq k52_4 (t := 8) rfl (by first | exact x_rbe e_z1 g_z1 rfl rfl | exact x_rb g_z1 rfl rfl | exact ⟨by omega, by omega⟩) (fun c2 => ?_) (fun c2 => ?_)
  · skip
    refine x_A k52_8 (fun _ => rfl) ?_
    refine x_A k52_9 (fun _ => rfl) ?_
    refine x_putI k52_10 (f := 5) rfl (q := 177) (n := 7) (kd := 7) ⟨by decide, rfl⟩ rfl rfl rfl ?_
    refine x_nh (fun s3 e_s3 => ?_)
    have hG_s3 : GI s3 := by rw [e_s3]; exact hG0.up (show 0 ≤ a ∧ a ≤ 5 from (by first | exact x_rb b_a rfl rfl | exact ⟨by omega, by omega⟩))
    have f_s3 : FL [1222, 1223] s0 s3 := by rw [e_s3]; exact f0.up (show 1222 ∈ [1222, 1223] from by decide +kernel)
    have q4 : s3 177 5 = a := by rw [e_s3]; exact x_up_same
    refine x_A k52_13 (fun _ => rfl) ?_
    refine x_A k52_14 (fun _ => rfl) ?_
    refine x_putI k52_15 (f := 6) rfl (q := 177) (n := 7) (kd := 7) ⟨by decide, rfl⟩ rfl rfl rfl ?_
    refine x_nh (fun s5 e_s5 => ?_)
    have hG_s5 : GI s5 := by rw [e_s5]; exact hG_s3.up (show (-2147483648) ≤ b ∧ b ≤ 2147483647 from (by first | exact x_rb b_b rfl rfl | exact ⟨by omega, by omega⟩))
    have f_s5 : FL [1222, 1223] s0 s5 := by rw [e_s5]; exact f_s3.up (show 1223 ∈ [1222, 1223] from by decide +kernel)
    have q6 : s5 177 5 = a := by rw [e_s5, x_up_i (by decide)]; exact q4
    have q7 : s5 177 6 = b := by rw [e_s5]; exact x_up_same
    exact x_vret k52_18 rfl ⟨hG_s5, f_s5, rfl, by omega⟩
  · skip
    obtain ⟨z8, e_z8⟩ : ∃ z, z = s0 177 6 := ⟨_, rfl⟩
    have g_z8 : (-2147483648) ≤ s0 177 6 ∧ s0 177 6 ≤ 2147483647 := hG0 177 6
    exact x_vret k52_7 rfl ⟨hG0, f0, rfl, by omega⟩
set_option maxHeartbeats 8000000 in
theorem L_E_X6_advance_177_95 (s0 : xS) (pa : s0 177 4 ≤ s0 177 1)  : ∀ (n : Nat) (s : xS) (x1000 : Int) (x1001 : Int) (x1002 : Int) (x1003 : Int) (hG : GI s) (f : FL [1219, 1220, 1221] s0 s) (b_x1000 : 0 ≤ x1000 ∧ x1000 ≤ 160) (b_x1001 : 1 ≤ x1001 ∧ x1001 ≤ 2) (b_x1002 : 0 ≤ x1002 ∧ x1002 ≤ 160) (b_x1003 : 1 ≤ x1003 ∧ x1003 ≤ 161) (r_1002_1003 : x1002 ≤ x1003 + 0) (w_0 : x1000 = s0 177 1) (w_1 : 0 ≤ x1002 ∧ x1002 < x1000) (w_2 : x1002 < x1003 ∧ x1003 ≤ x1000) (w_3 : x1001 = 1 ∨ x1001 = 2) (w_4 : x1001 = kd (s0 178) (s0 177 1) x1002) (w_5 : sk (s0 178) (s0 177 1) (s0 177 4) = x1002) (w_6 : sk (s0 178) (s0 177 1) x1002 = x1002) (w_7 : te (s0 178) (s0 177 1) x1002 = rk (s0 178) (s0 177 1) x1001 x1003) (e_x1000 : x1000 = s 177 1) (e_x1001 : x1001 = s 177 2) (e_x1002 : x1002 = s 177 3) (e_x1003 : x1003 = s 177 4)  (hm : (161 - x1003) < (n : Int)), xe none 51 95 [(0, .ref 177)] [] s 0 0 (fun s' v => GI s' ∧ FL [1219, 1220, 1221] s0 s' ∧ v = none ∧ (TK s' (s0 178) (s0 177 1) (sk (s0 178) (s0 177 1) (s0 177 4)))) := by
  intro n
  induction n with
  | zero => intro s x1000 x1001 x1002 x1003 hG f b_x1000 b_x1001 b_x1002 b_x1003 r_1002_1003 w_0 w_1 w_2 w_3 w_4 w_5 w_6 w_7 e_x1000 e_x1001 e_x1002 e_x1003  hm; exfalso; omega
  | succ n ih =>
    intro s x1000 x1001 x1002 x1003 hG f b_x1000 b_x1001 b_x1002 b_x1003 r_1002_1003 w_0 w_1 w_2 w_3 w_4 w_5 w_6 w_7 e_x1000 e_x1001 e_x1002 e_x1003  hm
    refine x_A k51_95 (fun _ => rfl) ?_
    refine x_getI k51_96 (f := 4) rfl (q := 177) (n := 7) (kd := 7) ⟨by decide, rfl⟩ (by decide) rfl ?_
    refine x_rw (e_x1003.symm) ?_
    refine x_A k51_99 (fun _ => rfl) ?_
    refine x_getI k51_100 (f := 1) rfl (q := 177) (n := 7) (kd := 7) ⟨by decide, rfl⟩ (by decide) rfl ?_
    refine x_rw (e_x1000.symm) ?_
    refine x_ic_ge k51_103 (t := 137) rfl (by first | exact x_rb b_x1003 rfl rfl | exact ⟨by omega, by omega⟩) (by first | exact x_rb b_x1000 rfl rfl | exact ⟨by omega, by omega⟩) (fun c201 => ?_) (fun c201 => ?_)
    · skip
      exact x_vret k51_137 rfl ⟨hG, f, rfl, (by rw [w_5]; exact ⟨⟨by omega, by omega⟩, w_6, by omega, by omega, by rw [w_7, rk_n (by omega) (by omega)]; omega⟩)⟩
    · skip
      refine x_A k51_106 (fun _ => rfl) ?_
      refine x_A k51_107 (fun _ => rfl) ?_
      refine x_getI k51_108 (f := 4) rfl (q := 177) (n := 7) (kd := 7) ⟨by decide, rfl⟩ (by decide) rfl ?_
      refine x_rw (e_x1003.symm) ?_
      refine x_callV k51_111 (y := 49) (n := 1) (w0 := 0) (w1 := 1) (as := [vi x1003]) (rest := []) (by decide +kernel) (q := 177) (nq := 7) (kq := 7) ⟨by decide, rfl⟩ rfl rfl rfl rfl (xe_mono (E_X6_byteAt_177 s hG x1003 (by first | exact x_rb b_x1003 rfl rfl | exact ⟨by omega, by omega⟩)) ?_)
      rintro s203 v ⟨h_s203, z202, rfl, g_z202⟩
      rw [h_s203]
      show xe none 51 114 [(0, .ref 177)] [vi z202] s 0 0 _
      rw [(show s 178 = s0 178 from funext fun i => f 178 i (show 1280 ∉ [1219, 1220, 1221] from by decide +kernel))] at g_z202
      refine x_callS k51_114 (y := 50) (n := 1) (w0 := 0) (w1 := 1) (as := [vi z202]) (rest := []) (by decide +kernel) rfl rfl rfl rfl (xe_mono (E_X6_kindOf s hG z202 (by first | exact x_rbe e_z202 g_z202 rfl rfl | exact x_rb g_z202 rfl rfl | exact ⟨by omega, by omega⟩)) ?_)
      rintro s205 v ⟨h_s205, z204, rfl, g_z204⟩
      rw [h_s205]
      show xe none 51 117 [(0, .ref 177)] [vi z204] s 0 0 _
      refine x_A k51_117 (fun _ => rfl) ?_
      refine x_getI k51_118 (f := 2) rfl (q := 177) (n := 7) (kd := 7) ⟨by decide, rfl⟩ (by decide) rfl ?_
      refine x_rw (e_x1001.symm) ?_
      refine x_ic_ne k51_121 (t := 137) rfl (by first | exact x_rbe e_z204 g_z204 rfl rfl | exact x_rb g_z204 rfl rfl | exact ⟨by omega, by omega⟩) (by first | exact x_rb b_x1001 rfl rfl | exact ⟨by omega, by omega⟩) (fun c206 => ?_) (fun c206 => ?_)
      · skip
        exact x_vret k51_137 rfl ⟨hG, f, rfl, (by rw [w_5]; exact ⟨⟨by omega, by omega⟩, w_6, by omega, by omega, by rw [w_7, rk_n (by omega) (by omega)]; omega⟩)⟩
      · skip
        refine x_A k51_124 (fun _ => rfl) ?_
        refine x_A k51_125 (fun _ => rfl) ?_
        refine x_getI k51_126 (f := 4) rfl (q := 177) (n := 7) (kd := 7) ⟨by decide, rfl⟩ (by decide) rfl ?_
        refine x_rw (e_x1003.symm) ?_
        refine x_A k51_129 (fun _ => rfl) ?_
        refine x_iadd k51_130 ?_
        refine x_top (fun z207 e_z207 => ?_)
        refine x_putI k51_131 (f := 4) rfl (q := 177) (n := 7) (kd := 7) ⟨by decide, rfl⟩ rfl rfl rfl ?_
        refine x_nh (fun s208 e_s208 => ?_)
        have hG_s208 : GI s208 := by rw [e_s208]; exact hG.up (show 0 ≤ z207 ∧ z207 ≤ 160 from (by first | exact x_rbe e_z207 g_z207 rfl rfl | exact x_rb g_z207 rfl rfl | exact ⟨by omega, by omega⟩))
        have f_s208 : FL [1219, 1220, 1221] s0 s208 := by rw [e_s208]; exact f.up (show 1221 ∈ [1219, 1220, 1221] from by decide +kernel)
        have q209 : s208 177 1 = x1000 := by rw [e_s208, x_up_i (by decide)]; exact e_x1000.symm
        have q210 : s208 177 2 = x1001 := by rw [e_s208, x_up_i (by decide)]; exact e_x1001.symm
        have q211 : s208 177 3 = x1002 := by rw [e_s208, x_up_i (by decide)]; exact e_x1002.symm
        have q212 : s208 177 4 = z207 := by rw [e_s208]; exact x_up_same
        refine x_goto k51_134 (t := 95) rfl ?_
        refine x_ls (l := [(0, .ref 177)]) (show ([0] : List Nat).Nodup from by decide +kernel) ⟨rfl, trivial⟩ ?_
        exact ih s208 x1000 x1001 x1002 z207 hG_s208 f_s208 (by first | exact x_rb b_x1000 rfl rfl | exact ⟨by omega, by omega⟩) (by first | exact x_rb b_x1001 rfl rfl | exact ⟨by omega, by omega⟩) (by first | exact x_rb b_x1002 rfl rfl | exact ⟨by omega, by omega⟩) (by first | exact x_rbe e_z207 g_z207 rfl rfl | exact x_rb g_z207 rfl rfl | exact ⟨by omega, by omega⟩) (by omega) (by omega) (by omega) (by omega) (by omega) w_4 w_5 w_6 (by rw [show z207 = x1003 + 1 by omega]; exact w_7.trans (rk_y (by omega) (by omega))) (q209).symm (q210).symm (q211).symm (q212).symm  (by omega)
set_option maxHeartbeats 8000000 in
theorem L_E_X6_advance_177_8 (s0 : xS) (pa : s0 177 4 ≤ s0 177 1)  : ∀ (n : Nat) (s : xS) (x1000 : Int) (x1001 : Int) (x1002 : Int) (x1003 : Int) (hG : GI s) (f : FL [1219, 1220, 1221] s0 s) (b_x1000 : 0 ≤ x1000 ∧ x1000 ≤ 160) (b_x1001 : 0 ≤ x1001 ∧ x1001 ≤ 3) (b_x1002 : 0 ≤ x1002 ∧ x1002 ≤ 160) (b_x1003 : 0 ≤ x1003 ∧ x1003 ≤ 160) (r_1003_1002 : x1003 ≤ x1002 + 0) (w_0 : x1000 = s0 177 1) (w_1 : 0 ≤ x1002 ∧ x1002 ≤ x1000) (w_2 : sk (s0 178) (s0 177 1) x1002 = sk (s0 178) (s0 177 1) (s0 177 4)) (e_x1000 : x1000 = s 177 1) (e_x1001 : x1001 = s 177 2) (e_x1002 : x1002 = s 177 3) (e_x1003 : x1003 = s 177 4)  (hm : (160 - x1002) < (n : Int)), xe none 51 8 [(0, .ref 177)] [] s 0 0 (fun s' v => GI s' ∧ FL [1219, 1220, 1221] s0 s' ∧ v = none ∧ (TK s' (s0 178) (s0 177 1) (sk (s0 178) (s0 177 1) (s0 177 4)))) := by
  intro n
  induction n with
  | zero => intro s x1000 x1001 x1002 x1003 hG f b_x1000 b_x1001 b_x1002 b_x1003 r_1003_1002 w_0 w_1 w_2 e_x1000 e_x1001 e_x1002 e_x1003  hm; exfalso; omega
  | succ n ih =>
    intro s x1000 x1001 x1002 x1003 hG f b_x1000 b_x1001 b_x1002 b_x1003 r_1003_1002 w_0 w_1 w_2 e_x1000 e_x1001 e_x1002 e_x1003  hm
    refine x_A k51_8 (fun _ => rfl) ?_
    refine x_getI k51_9 (f := 3) rfl (q := 177) (n := 7) (kd := 7) ⟨by decide, rfl⟩ (by decide) rfl ?_
    refine x_rw (e_x1002.symm) ?_
    refine x_A k51_12 (fun _ => rfl) ?_
    refine x_getI k51_13 (f := 1) rfl (q := 177) (n := 7) (kd := 7) ⟨by decide, rfl⟩ (by decide) rfl ?_
    refine x_rw (e_x1000.symm) ?_
    refine x_ic_ge k51_16 (t := 45) rfl (by first | exact x_rb b_x1002 rfl rfl | exact ⟨by omega, by omega⟩) (by first | exact x_rb b_x1000 rfl rfl | exact ⟨by omega, by omega⟩) (fun c213 => ?_) (fun c213 => ?_)
    · skip
      have hp : sk (s0 178) (s0 177 1) (s0 177 4) = x1002 := w_2.symm.trans (sk_n (by omega))
      refine x_A k51_45 (fun _ => rfl) ?_
      refine x_A k51_46 (fun _ => rfl) ?_
      refine x_A k51_47 (fun _ => rfl) ?_
      refine x_getI k51_48 (f := 3) rfl (q := 177) (n := 7) (kd := 7) ⟨by decide, rfl⟩ (by decide) rfl ?_
      refine x_rw (e_x1002.symm) ?_
      refine x_callV k51_51 (y := 49) (n := 1) (w0 := 1) (w1 := 1) (as := [vi x1002]) (rest := [.ref 177]) (by decide +kernel) (q := 177) (nq := 7) (kq := 7) ⟨by decide, rfl⟩ rfl rfl rfl rfl (xe_mono (E_X6_byteAt_177 s hG x1002 (by first | exact x_rb b_x1002 rfl rfl | exact ⟨by omega, by omega⟩)) ?_)
      rintro s215 v ⟨h_s215, z214, rfl, g_z214⟩
      rw [h_s215]
      show xe none 51 54 [(0, .ref 177)] [vi z214, .ref 177] s 0 0 _
      rw [(show s 178 = s0 178 from funext fun i => f 178 i (show 1280 ∉ [1219, 1220, 1221] from by decide +kernel))] at g_z214
      refine x_callS k51_54 (y := 50) (n := 1) (w0 := 1) (w1 := 1) (as := [vi z214]) (rest := [.ref 177]) (by decide +kernel) rfl rfl rfl rfl (xe_mono (E_X6_kindOf s hG z214 (by first | exact x_rbe e_z214 g_z214 rfl rfl | exact x_rb g_z214 rfl rfl | exact ⟨by omega, by omega⟩)) ?_)
      rintro s217 v ⟨h_s217, z216, rfl, g_z216⟩
      rw [h_s217]
      show xe none 51 57 [(0, .ref 177)] [vi z216, .ref 177] s 0 0 _
      refine x_putI k51_57 (f := 2) rfl (q := 177) (n := 7) (kd := 7) ⟨by decide, rfl⟩ rfl rfl rfl ?_
      refine x_nh (fun s218 e_s218 => ?_)
      have hG_s218 : GI s218 := by rw [e_s218]; exact hG.up (show 0 ≤ z216 ∧ z216 ≤ 3 from (by first | exact x_rbe e_z216 g_z216 rfl rfl | exact x_rb g_z216 rfl rfl | exact ⟨by omega, by omega⟩))
      have f_s218 : FL [1219, 1220, 1221] s0 s218 := by rw [e_s218]; exact f.up (show 1219 ∈ [1219, 1220, 1221] from by decide +kernel)
      have q219 : s218 177 1 = x1000 := by rw [e_s218, x_up_i (by decide)]; exact e_x1000.symm
      have q220 : s218 177 3 = x1002 := by rw [e_s218, x_up_i (by decide)]; exact e_x1002.symm
      have q221 : s218 177 4 = x1003 := by rw [e_s218, x_up_i (by decide)]; exact e_x1003.symm
      have q222 : s218 177 2 = z216 := by rw [e_s218]; exact x_up_same
      have hk : z216 = kd (s0 178) (s0 177 1) x1002 := by
        rcases kd_cs (T := s0 178) (n := s0 177 1) (p := x1002) with q | q | q | q <;> omega
      refine x_A k51_60 (fun _ => rfl) ?_
      refine x_A k51_61 (fun _ => rfl) ?_
      refine x_getI k51_62 (f := 3) rfl (q := 177) (n := 7) (kd := 7) ⟨by decide, rfl⟩ (by decide) rfl ?_
      refine x_rw (q220) ?_
      refine x_putI k51_65 (f := 4) rfl (q := 177) (n := 7) (kd := 7) ⟨by decide, rfl⟩ rfl rfl rfl ?_
      refine x_nh (fun s223 e_s223 => ?_)
      have hG_s223 : GI s223 := by rw [e_s223]; exact hG_s218.up (show 0 ≤ x1002 ∧ x1002 ≤ 160 from (by first | exact x_rb b_x1002 rfl rfl | exact ⟨by omega, by omega⟩))
      have f_s223 : FL [1219, 1220, 1221] s0 s223 := by rw [e_s223]; exact f_s218.up (show 1221 ∈ [1219, 1220, 1221] from by decide +kernel)
      have q224 : s223 177 1 = x1000 := by rw [e_s223, x_up_i (by decide)]; exact q219
      have q225 : s223 177 3 = x1002 := by rw [e_s223, x_up_i (by decide)]; exact q220
      have q226 : s223 177 2 = z216 := by rw [e_s223, x_up_i (by decide)]; exact q222
      have q227 : s223 177 4 = x1002 := by rw [e_s223]; exact x_up_same
      refine x_A k51_68 (fun _ => rfl) ?_
      refine x_getI k51_69 (f := 2) rfl (q := 177) (n := 7) (kd := 7) ⟨by decide, rfl⟩ (by decide) rfl ?_
      refine x_rw (q226) ?_
      refine x_if_ne k51_72 (t := 76) rfl (by first | exact x_rbe e_z216 g_z216 rfl rfl | exact x_rb g_z216 rfl rfl | exact ⟨by omega, by omega⟩) (fun c228 => ?_) (fun c228 => ?_)
      · skip
        refine x_A k51_76 (fun _ => rfl) ?_
        refine x_A k51_77 (fun _ => rfl) ?_
        refine x_getI k51_78 (f := 4) rfl (q := 177) (n := 7) (kd := 7) ⟨by decide, rfl⟩ (by decide) rfl ?_
        refine x_rw (q227) ?_
        refine x_A k51_81 (fun _ => rfl) ?_
        refine x_iadd k51_82 ?_
        refine x_top (fun z229 e_z229 => ?_)
        refine x_putI k51_83 (f := 4) rfl (q := 177) (n := 7) (kd := 7) ⟨by decide, rfl⟩ rfl rfl rfl ?_
        refine x_nh (fun s230 e_s230 => ?_)
        have hG_s230 : GI s230 := by rw [e_s230]; exact hG_s223.up (show 0 ≤ z229 ∧ z229 ≤ 160 from (by first | exact x_rbe e_z229 g_z229 rfl rfl | exact x_rb g_z229 rfl rfl | exact ⟨by omega, by omega⟩))
        have f_s230 : FL [1219, 1220, 1221] s0 s230 := by rw [e_s230]; exact f_s223.up (show 1221 ∈ [1219, 1220, 1221] from by decide +kernel)
        have q231 : s230 177 1 = x1000 := by rw [e_s230, x_up_i (by decide)]; exact q224
        have q232 : s230 177 3 = x1002 := by rw [e_s230, x_up_i (by decide)]; exact q225
        have q233 : s230 177 2 = z216 := by rw [e_s230, x_up_i (by decide)]; exact q226
        have q234 : s230 177 4 = z229 := by rw [e_s230]; exact x_up_same
        refine x_A k51_86 (fun _ => rfl) ?_
        refine x_getI k51_87 (f := 2) rfl (q := 177) (n := 7) (kd := 7) ⟨by decide, rfl⟩ (by decide) rfl ?_
        refine x_rw (q233) ?_
        refine x_A k51_90 (fun _ => rfl) ?_
        refine x_ic_ne k51_91 (t := 95) rfl (by first | exact x_rbe e_z216 g_z216 rfl rfl | exact x_rb g_z216 rfl rfl | exact ⟨by omega, by omega⟩) ⟨by decide, by decide⟩ (fun c235 => ?_) (fun c235 => ?_)
        · skip
          refine x_ls (l := [(0, .ref 177)]) (show ([0] : List Nat).Nodup from by decide +kernel) ⟨rfl, trivial⟩ ?_
          exact L_E_X6_advance_177_95 s0 pa  (((161 - z229) + 1 : Int)).toNat s230 x1000 z216 x1002 z229 hG_s230 f_s230 (by first | exact x_rb b_x1000 rfl rfl | exact ⟨by omega, by omega⟩) (by first | exact x_rbe e_z216 g_z216 rfl rfl | exact x_rb g_z216 rfl rfl | exact ⟨by omega, by omega⟩) (by first | exact x_rb b_x1002 rfl rfl | exact ⟨by omega, by omega⟩) (by first | exact x_rbe e_z229 g_z229 rfl rfl | exact x_rb g_z229 rfl rfl | exact ⟨by omega, by omega⟩) (by omega) (by omega) (by omega) (by omega) (by omega) hk hp (sk_n (by omega)) (by rw [te_rk hk (by omega), show z229 = x1002 + 1 by omega]) (q231).symm (q233).symm (q232).symm (q234).symm  (by omega)
        · skip
          exact x_vret k51_94 rfl ⟨hG_s230, f_s230, rfl, (by rw [hp]; exact ⟨⟨by omega, by omega⟩, sk_n (by omega), by omega, by rw [kd_3 (by omega) (by omega) (by omega)]; omega, by rw [te_3 (kd_3 (by omega) (by omega) (by omega))]; omega⟩)⟩
      · skip
        exact x_vret k51_75 rfl ⟨hG_s223, f_s223, rfl, (by rw [hp]; exact ⟨⟨by omega, by omega⟩, sk_n (by omega), by omega, by rw [kd_0 (by omega)]; omega, by rw [te_0 (kd_0 (by omega))]; omega⟩)⟩
    · skip
      refine x_A k51_19 (fun _ => rfl) ?_
      refine x_A k51_20 (fun _ => rfl) ?_
      refine x_getI k51_21 (f := 3) rfl (q := 177) (n := 7) (kd := 7) ⟨by decide, rfl⟩ (by decide) rfl ?_
      refine x_rw (e_x1002.symm) ?_
      refine x_callV k51_24 (y := 49) (n := 1) (w0 := 0) (w1 := 1) (as := [vi x1002]) (rest := []) (by decide +kernel) (q := 177) (nq := 7) (kq := 7) ⟨by decide, rfl⟩ rfl rfl rfl rfl (xe_mono (E_X6_byteAt_177 s hG x1002 (by first | exact x_rb b_x1002 rfl rfl | exact ⟨by omega, by omega⟩)) ?_)
      rintro s237 v ⟨h_s237, z236, rfl, g_z236⟩
      rw [h_s237]
      show xe none 51 27 [(0, .ref 177)] [vi z236] s 0 0 _
      rw [(show s 178 = s0 178 from funext fun i => f 178 i (show 1280 ∉ [1219, 1220, 1221] from by decide +kernel))] at g_z236
      refine x_bipush k51_27 (by decide +kernel) ?_
      refine x_ic_ne k51_29 (t := 45) rfl (by first | exact x_rbe e_z236 g_z236 rfl rfl | exact x_rb g_z236 rfl rfl | exact ⟨by omega, by omega⟩) ⟨by decide, by decide⟩ (fun c238 => ?_) (fun c238 => ?_)
      · skip
        have hp : sk (s0 178) (s0 177 1) (s0 177 4) = x1002 := w_2.symm.trans (sk_n (by omega))
        refine x_A k51_45 (fun _ => rfl) ?_
        refine x_A k51_46 (fun _ => rfl) ?_
        refine x_A k51_47 (fun _ => rfl) ?_
        refine x_getI k51_48 (f := 3) rfl (q := 177) (n := 7) (kd := 7) ⟨by decide, rfl⟩ (by decide) rfl ?_
        refine x_rw (e_x1002.symm) ?_
        refine x_callV k51_51 (y := 49) (n := 1) (w0 := 1) (w1 := 1) (as := [vi x1002]) (rest := [.ref 177]) (by decide +kernel) (q := 177) (nq := 7) (kq := 7) ⟨by decide, rfl⟩ rfl rfl rfl rfl (xe_mono (E_X6_byteAt_177 s hG x1002 (by first | exact x_rb b_x1002 rfl rfl | exact ⟨by omega, by omega⟩)) ?_)
        rintro s240 v ⟨h_s240, z239, rfl, g_z239⟩
        rw [h_s240]
        show xe none 51 54 [(0, .ref 177)] [vi z239, .ref 177] s 0 0 _
        rw [(show s 178 = s0 178 from funext fun i => f 178 i (show 1280 ∉ [1219, 1220, 1221] from by decide +kernel))] at g_z239
        refine x_callS k51_54 (y := 50) (n := 1) (w0 := 1) (w1 := 1) (as := [vi z239]) (rest := [.ref 177]) (by decide +kernel) rfl rfl rfl rfl (xe_mono (E_X6_kindOf s hG z239 (by first | exact x_rbe e_z239 g_z239 rfl rfl | exact x_rb g_z239 rfl rfl | exact ⟨by omega, by omega⟩)) ?_)
        rintro s242 v ⟨h_s242, z241, rfl, g_z241⟩
        rw [h_s242]
        show xe none 51 57 [(0, .ref 177)] [vi z241, .ref 177] s 0 0 _
        refine x_putI k51_57 (f := 2) rfl (q := 177) (n := 7) (kd := 7) ⟨by decide, rfl⟩ rfl rfl rfl ?_
        refine x_nh (fun s243 e_s243 => ?_)
        have hG_s243 : GI s243 := by rw [e_s243]; exact hG.up (show 0 ≤ z241 ∧ z241 ≤ 3 from (by first | exact x_rbe e_z241 g_z241 rfl rfl | exact x_rb g_z241 rfl rfl | exact ⟨by omega, by omega⟩))
        have f_s243 : FL [1219, 1220, 1221] s0 s243 := by rw [e_s243]; exact f.up (show 1219 ∈ [1219, 1220, 1221] from by decide +kernel)
        have q244 : s243 177 1 = x1000 := by rw [e_s243, x_up_i (by decide)]; exact e_x1000.symm
        have q245 : s243 177 3 = x1002 := by rw [e_s243, x_up_i (by decide)]; exact e_x1002.symm
        have q246 : s243 177 4 = x1003 := by rw [e_s243, x_up_i (by decide)]; exact e_x1003.symm
        have q247 : s243 177 2 = z241 := by rw [e_s243]; exact x_up_same
        have hk : z241 = kd (s0 178) (s0 177 1) x1002 := by
          rcases kd_cs (T := s0 178) (n := s0 177 1) (p := x1002) with q | q | q | q <;> omega
        refine x_A k51_60 (fun _ => rfl) ?_
        refine x_A k51_61 (fun _ => rfl) ?_
        refine x_getI k51_62 (f := 3) rfl (q := 177) (n := 7) (kd := 7) ⟨by decide, rfl⟩ (by decide) rfl ?_
        refine x_rw (q245) ?_
        refine x_putI k51_65 (f := 4) rfl (q := 177) (n := 7) (kd := 7) ⟨by decide, rfl⟩ rfl rfl rfl ?_
        refine x_nh (fun s248 e_s248 => ?_)
        have hG_s248 : GI s248 := by rw [e_s248]; exact hG_s243.up (show 0 ≤ x1002 ∧ x1002 ≤ 160 from (by first | exact x_rb b_x1002 rfl rfl | exact ⟨by omega, by omega⟩))
        have f_s248 : FL [1219, 1220, 1221] s0 s248 := by rw [e_s248]; exact f_s243.up (show 1221 ∈ [1219, 1220, 1221] from by decide +kernel)
        have q249 : s248 177 1 = x1000 := by rw [e_s248, x_up_i (by decide)]; exact q244
        have q250 : s248 177 3 = x1002 := by rw [e_s248, x_up_i (by decide)]; exact q245
        have q251 : s248 177 2 = z241 := by rw [e_s248, x_up_i (by decide)]; exact q247
        have q252 : s248 177 4 = x1002 := by rw [e_s248]; exact x_up_same
        refine x_A k51_68 (fun _ => rfl) ?_
        refine x_getI k51_69 (f := 2) rfl (q := 177) (n := 7) (kd := 7) ⟨by decide, rfl⟩ (by decide) rfl ?_
        refine x_rw (q251) ?_
        refine x_if_ne k51_72 (t := 76) rfl (by first | exact x_rbe e_z241 g_z241 rfl rfl | exact x_rb g_z241 rfl rfl | exact ⟨by omega, by omega⟩) (fun c253 => ?_) (fun c253 => ?_)
        · skip
          refine x_A k51_76 (fun _ => rfl) ?_
          refine x_A k51_77 (fun _ => rfl) ?_
          refine x_getI k51_78 (f := 4) rfl (q := 177) (n := 7) (kd := 7) ⟨by decide, rfl⟩ (by decide) rfl ?_
          refine x_rw (q252) ?_
          refine x_A k51_81 (fun _ => rfl) ?_
          refine x_iadd k51_82 ?_
          refine x_top (fun z254 e_z254 => ?_)
          refine x_putI k51_83 (f := 4) rfl (q := 177) (n := 7) (kd := 7) ⟨by decide, rfl⟩ rfl rfl rfl ?_
          refine x_nh (fun s255 e_s255 => ?_)
          have hG_s255 : GI s255 := by rw [e_s255]; exact hG_s248.up (show 0 ≤ z254 ∧ z254 ≤ 160 from (by first | exact x_rbe e_z254 g_z254 rfl rfl | exact x_rb g_z254 rfl rfl | exact ⟨by omega, by omega⟩))
          have f_s255 : FL [1219, 1220, 1221] s0 s255 := by rw [e_s255]; exact f_s248.up (show 1221 ∈ [1219, 1220, 1221] from by decide +kernel)
          have q256 : s255 177 1 = x1000 := by rw [e_s255, x_up_i (by decide)]; exact q249
          have q257 : s255 177 3 = x1002 := by rw [e_s255, x_up_i (by decide)]; exact q250
          have q258 : s255 177 2 = z241 := by rw [e_s255, x_up_i (by decide)]; exact q251
          have q259 : s255 177 4 = z254 := by rw [e_s255]; exact x_up_same
          refine x_A k51_86 (fun _ => rfl) ?_
          refine x_getI k51_87 (f := 2) rfl (q := 177) (n := 7) (kd := 7) ⟨by decide, rfl⟩ (by decide) rfl ?_
          refine x_rw (q258) ?_
          refine x_A k51_90 (fun _ => rfl) ?_
          refine x_ic_ne k51_91 (t := 95) rfl (by first | exact x_rbe e_z241 g_z241 rfl rfl | exact x_rb g_z241 rfl rfl | exact ⟨by omega, by omega⟩) ⟨by decide, by decide⟩ (fun c260 => ?_) (fun c260 => ?_)
          · skip
            refine x_ls (l := [(0, .ref 177)]) (show ([0] : List Nat).Nodup from by decide +kernel) ⟨rfl, trivial⟩ ?_
            exact L_E_X6_advance_177_95 s0 pa  (((161 - z254) + 1 : Int)).toNat s255 x1000 z241 x1002 z254 hG_s255 f_s255 (by first | exact x_rb b_x1000 rfl rfl | exact ⟨by omega, by omega⟩) (by first | exact x_rbe e_z241 g_z241 rfl rfl | exact x_rb g_z241 rfl rfl | exact ⟨by omega, by omega⟩) (by first | exact x_rb b_x1002 rfl rfl | exact ⟨by omega, by omega⟩) (by first | exact x_rbe e_z254 g_z254 rfl rfl | exact x_rb g_z254 rfl rfl | exact ⟨by omega, by omega⟩) (by omega) (by omega) (by omega) (by omega) (by omega) hk hp (sk_n (by omega)) (by rw [te_rk hk (by omega), show z254 = x1002 + 1 by omega]) (q256).symm (q258).symm (q257).symm (q259).symm  (by omega)
          · skip
            exact x_vret k51_94 rfl ⟨hG_s255, f_s255, rfl, (by rw [hp]; exact ⟨⟨by omega, by omega⟩, sk_n (by omega), by omega, by rw [kd_3 (by omega) (by omega) (by omega)]; omega, by rw [te_3 (kd_3 (by omega) (by omega) (by omega))]; omega⟩)⟩
        · skip
          exact x_vret k51_75 rfl ⟨hG_s248, f_s248, rfl, (by rw [hp]; exact ⟨⟨by omega, by omega⟩, sk_n (by omega), by omega, by rw [kd_0 (by omega)]; omega, by rw [te_0 (kd_0 (by omega))]; omega⟩)⟩
      · skip
        refine x_A k51_32 (fun _ => rfl) ?_
        refine x_A k51_33 (fun _ => rfl) ?_
        refine x_getI k51_34 (f := 3) rfl (q := 177) (n := 7) (kd := 7) ⟨by decide, rfl⟩ (by decide) rfl ?_
        refine x_rw (e_x1002.symm) ?_
        refine x_A k51_37 (fun _ => rfl) ?_
        refine x_iadd k51_38 ?_
        refine x_top (fun z261 e_z261 => ?_)
        refine x_putI k51_39 (f := 3) rfl (q := 177) (n := 7) (kd := 7) ⟨by decide, rfl⟩ rfl rfl rfl ?_
        refine x_nh (fun s262 e_s262 => ?_)
        have hG_s262 : GI s262 := by rw [e_s262]; exact hG.up (show 0 ≤ z261 ∧ z261 ≤ 160 from (by first | exact x_rbe e_z261 g_z261 rfl rfl | exact x_rb g_z261 rfl rfl | exact ⟨by omega, by omega⟩))
        have f_s262 : FL [1219, 1220, 1221] s0 s262 := by rw [e_s262]; exact f.up (show 1220 ∈ [1219, 1220, 1221] from by decide +kernel)
        have q263 : s262 177 1 = x1000 := by rw [e_s262, x_up_i (by decide)]; exact e_x1000.symm
        have q264 : s262 177 2 = x1001 := by rw [e_s262, x_up_i (by decide)]; exact e_x1001.symm
        have q265 : s262 177 4 = x1003 := by rw [e_s262, x_up_i (by decide)]; exact e_x1003.symm
        have q266 : s262 177 3 = z261 := by rw [e_s262]; exact x_up_same
        refine x_goto k51_42 (t := 8) rfl ?_
        refine x_ls (l := [(0, .ref 177)]) (show ([0] : List Nat).Nodup from by decide +kernel) ⟨rfl, trivial⟩ ?_
        exact ih s262 x1000 x1001 z261 x1003 hG_s262 f_s262 (by first | exact x_rb b_x1000 rfl rfl | exact ⟨by omega, by omega⟩) (by first | exact x_rb b_x1001 rfl rfl | exact ⟨by omega, by omega⟩) (by first | exact x_rbe e_z261 g_z261 rfl rfl | exact x_rb g_z261 rfl rfl | exact ⟨by omega, by omega⟩) (by first | exact x_rb b_x1003 rfl rfl | exact ⟨by omega, by omega⟩) (by omega) (by omega) (by omega) (by rw [show z261 = x1002 + 1 by omega]; exact (sk_y (by omega) (by omega)).symm.trans w_2) (q263).symm (q264).symm (q266).symm (q265).symm  (by omega)
set_option maxHeartbeats 8000000 in
theorem E_X6_advance_177 (s0 : xS) (hG0 : GI s0) (pa : s0 177 4 ≤ s0 177 1) : xe none 51 0 (lv_args 0 [.ref 177]) [] s0 0 0 (fun s' v => GI s' ∧ FL [1219, 1220, 1221] s0 s' ∧ v = none ∧ (TK s' (s0 178) (s0 177 1) (sk (s0 178) (s0 177 1) (s0 177 4)))) := by
  have f0 : FL [1219, 1220, 1221] s0 s0 := FL.rf
  show xe none 51 0 [(0, .ref 177)] [] s0 0 0 _
  obtain ⟨z267, e_z267⟩ : ∃ z, z = s0 177 1 := ⟨_, rfl⟩
  have g_z267 : (0 : Int) ≤ s0 177 1 ∧ s0 177 1 ≤ 160 := hG0 177 1
  obtain ⟨z268, e_z268⟩ : ∃ z, z = s0 177 4 := ⟨_, rfl⟩
  have g_z268 : (0 : Int) ≤ s0 177 4 ∧ s0 177 4 ≤ 160 := hG0 177 4
  refine x_A k51_0 (fun _ => rfl) ?_
  refine x_A k51_1 (fun _ => rfl) ?_
  refine x_getI k51_2 (f := 4) rfl (q := 177) (n := 7) (kd := 7) ⟨by decide, rfl⟩ (by decide) rfl ?_
  refine x_rw (e_z268.symm) ?_
  refine x_putI k51_5 (f := 3) rfl (q := 177) (n := 7) (kd := 7) ⟨by decide, rfl⟩ rfl rfl rfl ?_
  refine x_nh (fun s269 e_s269 => ?_)
  have hG_s269 : GI s269 := by rw [e_s269]; exact hG0.up (show 0 ≤ z268 ∧ z268 ≤ 160 from (by first | exact x_rbe e_z268 g_z268 rfl rfl | exact x_rb g_z268 rfl rfl | exact ⟨by omega, by omega⟩))
  have f_s269 : FL [1219, 1220, 1221] s0 s269 := by rw [e_s269]; exact f0.up (show 1220 ∈ [1219, 1220, 1221] from by decide +kernel)
  have q270 : s269 177 1 = z267 := by rw [e_s269, x_up_i (by decide)]; exact e_z267.symm
  have q271 : s269 177 4 = z268 := by rw [e_s269, x_up_i (by decide)]; exact e_z268.symm
  have q272 : s269 177 3 = z268 := by rw [e_s269]; exact x_up_same
  obtain ⟨z273, e_z273⟩ : ∃ z, z = s269 177 2 := ⟨_, rfl⟩
  have g_z273 : (0 : Int) ≤ s269 177 2 ∧ s269 177 2 ≤ 3 := hG_s269 177 2
  refine x_ls (l := [(0, .ref 177)]) (show ([0] : List Nat).Nodup from by decide +kernel) ⟨rfl, trivial⟩ ?_
  exact L_E_X6_advance_177_8 s0 pa  (((160 - z268) + 1 : Int)).toNat s269 z267 z273 z268 z268 hG_s269 f_s269 (by first | exact x_rbe e_z267 g_z267 rfl rfl | exact x_rb g_z267 rfl rfl | exact ⟨by omega, by omega⟩) (by first | exact x_rbe e_z273 g_z273 rfl rfl | exact x_rb g_z273 rfl rfl | exact ⟨by omega, by omega⟩) (by first | exact x_rbe e_z268 g_z268 rfl rfl | exact x_rb g_z268 rfl rfl | exact ⟨by omega, by omega⟩) (by first | exact x_rbe e_z268 g_z268 rfl rfl | exact x_rb g_z268 rfl rfl | exact ⟨by omega, by omega⟩) (by omega) (by omega) (by omega) (by rw [show z268 = s0 177 4 by omega]) (q270).symm (e_z273.symm).symm (q272).symm (q271).symm  (by omega)
set_option maxHeartbeats 8000000 in
theorem L_E_X6_takeNumber_177_57 (s0 : xS) (a : Int) (b_a : (-2147483648) ≤ a ∧ a ≤ 2147483647) (b : Int) (b_b : (-2147483648) ≤ b ∧ b ≤ 2147483647) (d : Int) (b_d : 1 ≤ d ∧ d ≤ 3)  : ∀ (n : Nat) (s : xS) (x1 : Int) (x2 : Int) (x3 : Int) (x4 : Int) (x5 : Int) (x1000 : Int) (x1001 : Int) (x1002 : Int) (x1003 : Int) (hG : GI s) (f : FL [1219, 1220, 1221, 1222, 1223] s0 s) (b_x1 : (-2147483648) ≤ x1 ∧ x1 ≤ 2147483647) (b_x2 : (-2147483648) ≤ x2 ∧ x2 ≤ 2147483647) (b_x3 : 1 ≤ x3 ∧ x3 ≤ 3) (b_x4 : (-49) ≤ x4 ∧ x4 ≤ 1197) (b_x5 : 0 ≤ x5 ∧ x5 ≤ 160) (b_x1000 : 0 ≤ x1000 ∧ x1000 ≤ 160) (b_x1001 : 0 ≤ x1001 ∧ x1001 ≤ 160) (b_x1002 : 0 ≤ x1002 ∧ x1002 ≤ 160) (b_x1003 : 0 ≤ x1003 ∧ x1003 ≤ 0) (r_1001_5 : x1001 ≤ x5 + 0) (r_1003_5 : x1003 ≤ x5 + 0) (r_1003_3 : x1003 ≤ x3 + 0) (r_1003_1000 : x1003 ≤ x1000 + 0) (r_1003_1001 : x1003 ≤ x1001 + 0) (r_1003_1002 : x1003 ≤ x1002 + 0) (w_0 : x1 = a ∧ x2 = b ∧ x3 = d) (w_1 : x1000 = s0 177 1 ∧ x1001 = s0 177 3 ∧ x1002 = te (s0 178) (s0 177 1) (s0 177 3) ∧ x1003 = 0 ∧ s0 177 5 = 0 ∧ s 177 6 = s0 177 6) (w_2 : 0 ≤ s0 177 3 ∧ s0 177 3 ≤ x5 ∧ x5 ≤ x1002 ∧ x1002 ≤ x1000 ∧ x1002 - s0 177 3 ≤ d ∧ 1 ≤ d ∧ d ≤ 3) (w_3 : x4 = nv (s0 178) (s0 177 3) (x5 - s0 177 3).toNat) (w_4 : x4 = x4) (w_5 : s 177 2 = s0 177 2) (w_6 : kd (s0 178) (s0 177 1) (s0 177 3) = 2) (w_7 : s 178 = s0 178) (e_x1000 : x1000 = s 177 1) (e_x1001 : x1001 = s 177 3) (e_x1002 : x1002 = s 177 4) (e_x1003 : x1003 = s 177 5) (i_TK : TKs s)  (hm : (160 - x5) < (n : Int)), xe none 57 57 [(0, .ref 177), (1, vi x1), (2, vi x2), (3, vi x3), (4, vi x4), (5, vi x5)] [] s 0 0 (fun s' v => GI s' ∧ FL [1219, 1220, 1221, 1222, 1223] s0 s' ∧ ∃ z, v = some (vi z) ∧ ((-2147483648) ≤ z ∧ z ≤ 2147483647) ∧ (NmC s0 s' a b d z ∧ (s' 177 5 = 0 → s0 177 5 = 0 ∧ a ≤ z ∧ z ≤ b) ∧ (z = -1 ∨ (a ≤ z ∧ z ≤ b))) ∧ TKs s') := by
  intro n
  induction n with
  | zero => intro s x1 x2 x3 x4 x5 x1000 x1001 x1002 x1003 hG f b_x1 b_x2 b_x3 b_x4 b_x5 b_x1000 b_x1001 b_x1002 b_x1003 r_1001_5 r_1003_5 r_1003_3 r_1003_1000 r_1003_1001 r_1003_1002 w_0 w_1 w_2 w_3 w_4 w_5 w_6 w_7 e_x1000 e_x1001 e_x1002 e_x1003 i_TK  hm; exfalso; omega
  | succ n ih =>
    intro s x1 x2 x3 x4 x5 x1000 x1001 x1002 x1003 hG f b_x1 b_x2 b_x3 b_x4 b_x5 b_x1000 b_x1001 b_x1002 b_x1003 r_1001_5 r_1003_5 r_1003_3 r_1003_1000 r_1003_1001 r_1003_1002 w_0 w_1 w_2 w_3 w_4 w_5 w_6 w_7 e_x1000 e_x1001 e_x1002 e_x1003 i_TK  hm
    refine x_A k57_57 (fun _ => rfl) ?_
    refine x_A k57_59 (fun _ => rfl) ?_
    refine x_getI k57_60 (f := 4) rfl (q := 177) (n := 7) (kd := 7) ⟨by decide, rfl⟩ (by decide) rfl ?_
    refine x_rw (e_x1002.symm) ?_
    refine x_ic_ge k57_63 (t := 89) rfl (by first | exact x_rb b_x5 rfl rfl | exact ⟨by omega, by omega⟩) (by first | exact x_rb b_x1002 rfl rfl | exact ⟨by omega, by omega⟩) (fun c216 => ?_) (fun c216 => ?_)
    · skip
      have ex : x5 = te (s0 178) (s0 177 1) (s0 177 3) := by omega
      rw [ex] at w_3
      have nb := nv_d (n := s0 177 1) (x := te (s0 178) (s0 177 1) (s0 177 3)) w_6 (by omega) (by omega)
      refine x_A k57_89 (fun _ => rfl) ?_
      refine x_A k57_91 (fun _ => rfl) ?_
      refine x_A k57_92 (fun _ => rfl) ?_
      refine x_callS k57_93 (y := 121) (n := 3) (w0 := 0) (w1 := 3) (as := [vi x4, vi x1, vi x2]) (rest := []) (by decide +kernel) rfl rfl rfl rfl (xe_mono (C_X10_isWithin s hG x4 (by first | exact x_rb b_x4 rfl rfl | exact ⟨by omega, by omega⟩) x1 (by first | exact x_rb b_x1 rfl rfl | exact ⟨by omega, by omega⟩) x2 (by first | exact x_rb b_x2 rfl rfl | exact ⟨by omega, by omega⟩)) ?_)
      rintro s218 v ⟨h_s218, z217, rfl, hz_z217⟩
      rw [h_s218]
      rcases hz_z217 with ⟨c_z217, e_z217⟩ | ⟨c_z217, e_z217⟩
      · rw [e_z217]
        show xe none 57 96 [(0, .ref 177), (1, vi x1), (2, vi x2), (3, vi x3), (4, vi x4), (5, vi x5)] [vi 1] s 0 0 _
        refine x_if_ne k57_96 (t := 108) rfl ⟨by decide, by decide⟩ (fun c219 => ?_) (fun c219 => by exfalso; omega)
        refine x_A k57_108 (fun _ => rfl) ?_
        refine x_getI k57_109 (f := 5) rfl (q := 177) (n := 7) (kd := 7) ⟨by decide, rfl⟩ (by decide) rfl ?_
        refine x_rw (e_x1003.symm) ?_
        refine x_if_eq k57_112 (t := 117) rfl (by first | exact x_rb b_x1003 rfl rfl | exact ⟨by omega, by omega⟩) (fun c220 => ?_) (fun c220 => by exfalso; omega)
        have nf : numf (s0 178) (s0 177 1) (s0 177 3) a b d 2 = 0 := numf_0 w_6 (by omega) (by omega)
        obtain ⟨z221, e_z221⟩ : ∃ z, z = s 177 6 := ⟨_, rfl⟩
        have g_z221 : (-2147483648) ≤ s 177 6 ∧ s 177 6 ≤ 2147483647 := hG 177 6
        refine x_A k57_117 (fun _ => rfl) ?_
        refine x_callV k57_118 (y := 51) (n := 0) (w0 := 0) (w1 := 0) (as := []) (rest := []) (by decide +kernel) (q := 177) (nq := 7) (kq := 7) ⟨by decide, rfl⟩ rfl rfl rfl rfl (xe_mono (E_X6_advance_177 s hG (by omega)) ?_)
        rintro s223 v ⟨hG_s223, t_s223, rfl, xp_z222⟩
        have f_s223 : FL [1219, 1220, 1221, 1222, 1223] s0 s223 := f.tr t_s223 (by decide +kernel)
        have q224 : s223 177 1 = x1000 := (t_s223 177 1 (show 1218 ∉ [1219, 1220, 1221] from by decide +kernel)).trans e_x1000.symm
        have q225 : s223 177 5 = x1003 := (t_s223 177 5 (show 1222 ∉ [1219, 1220, 1221] from by decide +kernel)).trans e_x1003.symm
        have q226 : s223 177 6 = z221 := (t_s223 177 6 (show 1223 ∉ [1219, 1220, 1221] from by decide +kernel)).trans e_z221.symm
        show xe none 57 121 [(0, .ref 177), (1, vi x1), (2, vi x2), (3, vi x3), (4, vi x4), (5, vi x5)] [] s223 0 0 _
        have tq := xp_z222
        rw [w_7, show s 177 1 = s0 177 1 by omega, show s 177 4 = te (s0 178) (s0 177 1) (s0 177 3) by omega] at tq
        have TK_n : TKs s223 := TK.s tq (show s223 178 = s0 178 from funext fun i => f_s223 178 i (show 1280 ∉ [1219, 1220, 1221, 1222, 1223] from by decide +kernel)) (by omega)
        unfold TK at tq
        refine x_A k57_121 (fun _ => rfl) ?_
        obtain ⟨z227, e_z227⟩ : ∃ z, z = s223 177 3 := ⟨_, rfl⟩
        have g_z227 : (0 : Int) ≤ s223 177 3 ∧ s223 177 3 ≤ 160 := hG_s223 177 3
        exact x_iret k57_123 rfl ⟨hG_s223, f_s223, x4, rfl, (by first | exact x_rb b_x4 rfl rfl | exact ⟨by omega, by omega⟩), ⟨(by unfold NmC NmR nva nx; omega), by omega, by omega⟩, TK_n⟩
      · rw [e_z217]
        show xe none 57 96 [(0, .ref 177), (1, vi x1), (2, vi x2), (3, vi x3), (4, vi x4), (5, vi x5)] [vi 0] s 0 0 _
        refine x_if_ne k57_96 (t := 108) rfl ⟨by decide, by decide⟩ (fun c228 => by exfalso; omega) (fun c228 => ?_)
        have nf : numf (s0 178) (s0 177 1) (s0 177 3) a b d 2 = 2 := numf_3 w_6 (by omega) (by omega)
        refine x_A k57_99 (fun _ => rfl) ?_
        refine x_A k57_100 (fun _ => rfl) ?_
        refine x_A k57_101 (fun _ => rfl) ?_
        refine x_getI k57_102 (f := 3) rfl (q := 177) (n := 7) (kd := 7) ⟨by decide, rfl⟩ (by decide) rfl ?_
        refine x_rw (e_x1001.symm) ?_
        refine x_callV k57_105 (y := 52) (n := 2) (w0 := 0) (w1 := 2) (as := [vi 2, vi x1001]) (rest := []) (by decide +kernel) (q := 177) (nq := 7) (kq := 7) ⟨by decide, rfl⟩ rfl rfl rfl rfl (xe_mono (E_X6_fail_177 s hG 2 ⟨by decide, by decide⟩ x1001 (by first | exact x_rb b_x1001 rfl rfl | exact ⟨by omega, by omega⟩)) ?_)
        rintro s230 v ⟨hG_s230, t_s230, rfl, xp_z229⟩
        have f_s230 : FL [1219, 1220, 1221, 1222, 1223] s0 s230 := f.tr t_s230 (by decide +kernel)
        have q231 : s230 177 1 = x1000 := (t_s230 177 1 (show 1218 ∉ [1222, 1223] from by decide +kernel)).trans e_x1000.symm
        have q232 : s230 177 3 = x1001 := (t_s230 177 3 (show 1220 ∉ [1222, 1223] from by decide +kernel)).trans e_x1001.symm
        have q233 : s230 177 4 = x1002 := (t_s230 177 4 (show 1221 ∉ [1222, 1223] from by decide +kernel)).trans e_x1002.symm
        have TK_s230 : TKs s230 := TKs.fl i_TK t_s230 (by decide +kernel)
        obtain ⟨z234, e_z234⟩ : ∃ z, z = s230 177 5 := ⟨_, rfl⟩
        have g_z234 : (0 : Int) ≤ s230 177 5 ∧ s230 177 5 ≤ 5 := hG_s230 177 5
        obtain ⟨z235, e_z235⟩ : ∃ z, z = s230 177 6 := ⟨_, rfl⟩
        have g_z235 : (-2147483648) ≤ s230 177 6 ∧ s230 177 6 ≤ 2147483647 := hG_s230 177 6
        show xe none 57 108 [(0, .ref 177), (1, vi x1), (2, vi x2), (3, vi x3), (4, vi x4), (5, vi x5)] [] s230 0 0 _
        refine x_A k57_108 (fun _ => rfl) ?_
        refine x_getI k57_109 (f := 5) rfl (q := 177) (n := 7) (kd := 7) ⟨by decide, rfl⟩ (by decide) rfl ?_
        refine x_rw (e_z234.symm) ?_
        refine x_if_eq k57_112 (t := 117) rfl (by first | exact x_rbe e_z234 g_z234 rfl rfl | exact x_rb g_z234 rfl rfl | exact ⟨by omega, by omega⟩) (fun c236 => by exfalso; omega) (fun c236 => ?_)
        refine x_A k57_115 (fun _ => rfl) ?_
        exact x_iret k57_116 rfl ⟨hG_s230, f_s230, (-1), rfl, ⟨by decide, by decide⟩, ⟨(by unfold NmC NmR nva nx; omega), by omega, by omega⟩, TK_s230⟩
    · skip
      have nb := nv_d (x := x5) w_6 (by omega) (by omega)
      have ns := nv_s (T := s0 178) (p := s0 177 3) (x := x5) (by omega)
      refine x_bipush k57_66 (by decide +kernel) ?_
      refine x_A k57_68 (fun _ => rfl) ?_
      refine x_imul k57_70 ?_
      refine x_top (fun z237 e_z237 => ?_)
      refine x_A k57_71 (fun _ => rfl) ?_
      refine x_A k57_72 (fun _ => rfl) ?_
      refine x_callV k57_74 (y := 49) (n := 1) (w0 := 1) (w1 := 1) (as := [vi x5]) (rest := [vi z237]) (by decide +kernel) (q := 177) (nq := 7) (kq := 7) ⟨by decide, rfl⟩ rfl rfl rfl rfl (xe_mono (E_X6_byteAt_177 s hG x5 (by first | exact x_rb b_x5 rfl rfl | exact ⟨by omega, by omega⟩)) ?_)
      rintro s239 v ⟨h_s239, z238, rfl, g_z238⟩
      rw [h_s239]
      show xe none 57 77 [(0, .ref 177), (1, vi x1), (2, vi x2), (3, vi x3), (4, vi x4), (5, vi x5)] [vi z238, vi z237] s 0 0 _
      rw [(show s 178 = s0 178 from funext fun i => f 178 i (show 1280 ∉ [1219, 1220, 1221, 1222, 1223] from by decide +kernel))] at g_z238
      refine x_iadd k57_77 ?_
      refine x_top (fun z240 e_z240 => ?_)
      refine x_bipush k57_78 (by decide +kernel) ?_
      refine x_isub k57_80 ?_
      refine x_top (fun z241 e_z241 => ?_)
      refine x_istore k57_81 (ls' := [(4, vi z241), (0, .ref 177), (1, vi x1), (2, vi x2), (3, vi x3), (5, vi x5)]) (by decide) rfl ?_
      refine x_iinc k57_83 (ls' := [(5, vi (x5 + 1)), (4, vi z241), (0, .ref 177), (1, vi x1), (2, vi x2), (3, vi x3)]) rfl (by decide) rfl ?_
      refine x_goto k57_86 (t := 57) rfl ?_
      refine x_ls (l := [(0, .ref 177), (1, vi x1), (2, vi x2), (3, vi x3), (4, vi z241), (5, vi (x5 + 1))]) (show ([0, 1, 2, 3, 4, 5] : List Nat).Nodup from by decide +kernel) ⟨rfl, rfl, rfl, rfl, rfl, rfl, trivial⟩ ?_
      exact ih s x1 x2 x3 z241 (x5 + 1) x1000 x1001 x1002 x1003 hG f (by first | exact x_rb b_x1 rfl rfl | exact ⟨by omega, by omega⟩) (by first | exact x_rb b_x2 rfl rfl | exact ⟨by omega, by omega⟩) (by first | exact x_rb b_x3 rfl rfl | exact ⟨by omega, by omega⟩) (by first | exact x_rbe e_z241 g_z241 rfl rfl | exact x_rb g_z241 rfl rfl | exact ⟨by omega, by omega⟩) ⟨by omega, by omega⟩ (by first | exact x_rb b_x1000 rfl rfl | exact ⟨by omega, by omega⟩) (by first | exact x_rb b_x1001 rfl rfl | exact ⟨by omega, by omega⟩) (by first | exact x_rb b_x1002 rfl rfl | exact ⟨by omega, by omega⟩) (by first | exact x_rb b_x1003 rfl rfl | exact ⟨by omega, by omega⟩) (by omega) (by omega) (by omega) (by omega) (by omega) (by omega) (by omega) (by omega) (by omega) (by omega) (by omega) (by omega) w_6 w_7 (e_x1000.symm).symm (e_x1001.symm).symm (e_x1002.symm).symm (e_x1003.symm).symm i_TK  (by omega)
