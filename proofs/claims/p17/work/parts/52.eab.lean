set_option maxHeartbeats 8000000 in
theorem E_X6_takeNumber_177 (s0 : xS) (hG0 : GI s0) (a : Int) (b_a : (-2147483648) ≤ a ∧ a ≤ 2147483647) (b : Int) (b_b : (-2147483648) ≤ b ∧ b ≤ 2147483647) (d : Int) (b_d : 1 ≤ d ∧ d ≤ 3) (i0_TK : TKs s0) : xe none 57 0 (lv_args 0 [.ref 177, vi a, vi b, vi d]) [] s0 0 0 (fun s' v => GI s' ∧ FL [1219, 1220, 1221, 1222, 1223] s0 s' ∧ ∃ z, v = some (vi z) ∧ ((-2147483648) ≤ z ∧ z ≤ 2147483647) ∧ (NmC s0 s' a b d z ∧ (s' 177 5 = 0 → s0 177 5 = 0 ∧ a ≤ z ∧ z ≤ b) ∧ (z = -1 ∨ (a ≤ z ∧ z ≤ b))) ∧ TKs s') := by
  have f0 : FL [1219, 1220, 1221, 1222, 1223] s0 s0 := FL.rf
  show xe none 57 0 [(0, .ref 177), (1, vi a), (2, vi b), (3, vi d)] [] s0 0 0 _
  have tk := i0_TK
  unfold TKs TK at tk
  have tl := te_le (T := s0 178) (n := s0 177 1) (p := s0 177 3)
  refine x_A k57_0 (fun _ => rfl) ?_
  refine x_getI k57_1 (f := 2) rfl (q := 177) (n := 7) (kd := 7) ⟨by decide, rfl⟩ (by decide) rfl ?_
  refine x_top (fun z242 e_z242 => ?_)
  have g_z242 : (0 : Int) ≤ s0 177 2 ∧ s0 177 2 ≤ 3 := hG0 177 2
  refine x_A k57_4 (fun _ => rfl) ?_
  refine x_ic_eq k57_5 (t := 17) rfl (by first | exact x_rbe e_z242 g_z242 rfl rfl | exact x_rb g_z242 rfl rfl | exact ⟨by omega, by omega⟩) ⟨by decide, by decide⟩ (fun c243 => ?_) (fun c243 => ?_)
  · skip
    refine x_A k57_17 (fun _ => rfl) ?_
    refine x_getI k57_18 (f := 4) rfl (q := 177) (n := 7) (kd := 7) ⟨by decide, rfl⟩ (by decide) rfl ?_
    refine x_top (fun z244 e_z244 => ?_)
    have g_z244 : (0 : Int) ≤ s0 177 4 ∧ s0 177 4 ≤ 160 := hG0 177 4
    refine x_A k57_21 (fun _ => rfl) ?_
    refine x_getI k57_22 (f := 3) rfl (q := 177) (n := 7) (kd := 7) ⟨by decide, rfl⟩ (by decide) rfl ?_
    refine x_top (fun z245 e_z245 => ?_)
    have g_z245 : (0 : Int) ≤ s0 177 3 ∧ s0 177 3 ≤ 160 := hG0 177 3
    refine x_isub k57_25 ?_
    refine x_top (fun z246 e_z246 => ?_)
    refine x_A k57_26 (fun _ => rfl) ?_
    refine x_ic_le k57_27 (t := 39) rfl (by first | exact x_rbe e_z246 g_z246 rfl rfl | exact x_rb g_z246 rfl rfl | exact ⟨by omega, by omega⟩) (by first | exact x_rb b_d rfl rfl | exact ⟨by omega, by omega⟩) (fun c247 => ?_) (fun c247 => ?_)
    · skip
      refine x_A k57_39 (fun _ => rfl) ?_
      refine x_getI k57_40 (f := 5) rfl (q := 177) (n := 7) (kd := 7) ⟨by decide, rfl⟩ (by decide) rfl ?_
      refine x_top (fun z248 e_z248 => ?_)
      have g_z248 : (0 : Int) ≤ s0 177 5 ∧ s0 177 5 ≤ 5 := hG0 177 5
      refine x_if_eq k57_43 (t := 48) rfl (by first | exact x_rbe e_z248 g_z248 rfl rfl | exact x_rb g_z248 rfl rfl | exact ⟨by omega, by omega⟩) (fun c249 => ?_) (fun c249 => ?_)
      · skip
        refine x_A k57_48 (fun _ => rfl) ?_
        refine x_istore k57_49 (ls' := [(4, vi 0), (0, .ref 177), (1, vi a), (2, vi b), (3, vi d)]) (by decide) rfl ?_
        refine x_A k57_51 (fun _ => rfl) ?_
        refine x_getI k57_52 (f := 3) rfl (q := 177) (n := 7) (kd := 7) ⟨by decide, rfl⟩ (by decide) rfl ?_
        refine x_rw (e_z245.symm) ?_
        refine x_istore k57_55 (ls' := [(5, vi z245), (4, vi 0), (0, .ref 177), (1, vi a), (2, vi b), (3, vi d)]) (by decide) rfl ?_
        obtain ⟨z250, e_z250⟩ : ∃ z, z = s0 177 1 := ⟨_, rfl⟩
        have g_z250 : (0 : Int) ≤ s0 177 1 ∧ s0 177 1 ≤ 160 := hG0 177 1
        refine x_ls (l := [(0, .ref 177), (1, vi a), (2, vi b), (3, vi d), (4, vi 0), (5, vi z245)]) (show ([0, 1, 2, 3, 4, 5] : List Nat).Nodup from by decide +kernel) ⟨rfl, rfl, rfl, rfl, rfl, rfl, trivial⟩ ?_
        exact L_E_X6_takeNumber_177_57 s0 a b_a b b_b d b_d  (((160 - z245) + 1 : Int)).toNat s0 a b d 0 z245 z250 z245 z244 z248 hG0 f0 (by first | exact x_rb b_a rfl rfl | exact ⟨by omega, by omega⟩) (by first | exact x_rb b_b rfl rfl | exact ⟨by omega, by omega⟩) (by first | exact x_rb b_d rfl rfl | exact ⟨by omega, by omega⟩) ⟨by decide, by decide⟩ (by first | exact x_rbe e_z245 g_z245 rfl rfl | exact x_rb g_z245 rfl rfl | exact ⟨by omega, by omega⟩) (by first | exact x_rbe e_z250 g_z250 rfl rfl | exact x_rb g_z250 rfl rfl | exact ⟨by omega, by omega⟩) (by first | exact x_rbe e_z245 g_z245 rfl rfl | exact x_rb g_z245 rfl rfl | exact ⟨by omega, by omega⟩) (by first | exact x_rbe e_z244 g_z244 rfl rfl | exact x_rb g_z244 rfl rfl | exact ⟨by omega, by omega⟩) (by first | exact x_rbe e_z248 g_z248 rfl rfl | exact x_rb g_z248 rfl rfl | exact ⟨by omega, by omega⟩) (by omega) (by omega) (by omega) (by omega) (by omega) (by omega) (by omega) (by omega) (by omega) (by rw [show z245 - s0 177 3 = 0 by omega]; rfl) (by omega) (by omega) (by omega) rfl (e_z250.symm).symm (e_z245.symm).symm (e_z244.symm).symm (e_z248.symm).symm i0_TK  (by omega)
      · skip
        refine x_A k57_46 (fun _ => rfl) ?_
        obtain ⟨z251, e_z251⟩ : ∃ z, z = s0 177 6 := ⟨_, rfl⟩
        have g_z251 : (-2147483648) ≤ s0 177 6 ∧ s0 177 6 ≤ 2147483647 := hG0 177 6
        exact x_iret k57_47 rfl ⟨hG0, f0, (-1), rfl, ⟨by decide, by decide⟩, ⟨(by unfold NmC NmR nva nx; omega), by omega, by omega⟩, i0_TK⟩
    · skip
      have nf : numf (s0 178) (s0 177 1) (s0 177 3) a b d 2 = 2 := numf_2 (by omega) (by omega)
      refine x_A k57_30 (fun _ => rfl) ?_
      refine x_A k57_31 (fun _ => rfl) ?_
      refine x_A k57_32 (fun _ => rfl) ?_
      refine x_getI k57_33 (f := 3) rfl (q := 177) (n := 7) (kd := 7) ⟨by decide, rfl⟩ (by decide) rfl ?_
      refine x_rw (e_z245.symm) ?_
      refine x_callV k57_36 (y := 52) (n := 2) (w0 := 0) (w1 := 2) (as := [vi 2, vi z245]) (rest := []) (by decide +kernel) (q := 177) (nq := 7) (kq := 7) ⟨by decide, rfl⟩ rfl rfl rfl rfl (xe_mono (E_X6_fail_177 s0 hG0 2 ⟨by decide, by decide⟩ z245 (by first | exact x_rbe e_z245 g_z245 rfl rfl | exact x_rb g_z245 rfl rfl | exact ⟨by omega, by omega⟩)) ?_)
      rintro s253 v ⟨hG_s253, t_s253, rfl, xp_z252⟩
      have f_s253 : FL [1219, 1220, 1221, 1222, 1223] s0 s253 := f0.tr t_s253 (by decide +kernel)
      have q254 : s253 177 2 = z242 := (t_s253 177 2 (show 1219 ∉ [1222, 1223] from by decide +kernel)).trans e_z242.symm
      have q255 : s253 177 4 = z244 := (t_s253 177 4 (show 1221 ∉ [1222, 1223] from by decide +kernel)).trans e_z244.symm
      have q256 : s253 177 3 = z245 := (t_s253 177 3 (show 1220 ∉ [1222, 1223] from by decide +kernel)).trans e_z245.symm
      have TK_s253 : TKs s253 := TKs.fl i0_TK t_s253 (by decide +kernel)
      obtain ⟨z257, e_z257⟩ : ∃ z, z = s253 177 5 := ⟨_, rfl⟩
      have g_z257 : (0 : Int) ≤ s253 177 5 ∧ s253 177 5 ≤ 5 := hG_s253 177 5
      obtain ⟨z258, e_z258⟩ : ∃ z, z = s253 177 6 := ⟨_, rfl⟩
      have g_z258 : (-2147483648) ≤ s253 177 6 ∧ s253 177 6 ≤ 2147483647 := hG_s253 177 6
      show xe none 57 39 [(0, .ref 177), (1, vi a), (2, vi b), (3, vi d)] [] s253 0 0 _
      refine x_A k57_39 (fun _ => rfl) ?_
      refine x_getI k57_40 (f := 5) rfl (q := 177) (n := 7) (kd := 7) ⟨by decide, rfl⟩ (by decide) rfl ?_
      refine x_rw (e_z257.symm) ?_
      refine x_if_eq k57_43 (t := 48) rfl (by first | exact x_rbe e_z257 g_z257 rfl rfl | exact x_rb g_z257 rfl rfl | exact ⟨by omega, by omega⟩) (fun c259 => by exfalso; omega) (fun c259 => ?_)
      refine x_A k57_46 (fun _ => rfl) ?_
      exact x_iret k57_47 rfl ⟨hG_s253, f_s253, (-1), rfl, ⟨by decide, by decide⟩, ⟨(by unfold NmC NmR nva nx; omega), by omega, by omega⟩, TK_s253⟩
  · skip
    have nf : numf (s0 178) (s0 177 1) (s0 177 3) a b d 2 = 1 := numf_1 (by omega)
    refine x_A k57_8 (fun _ => rfl) ?_
    refine x_A k57_9 (fun _ => rfl) ?_
    refine x_A k57_10 (fun _ => rfl) ?_
    refine x_getI k57_11 (f := 3) rfl (q := 177) (n := 7) (kd := 7) ⟨by decide, rfl⟩ (by decide) rfl ?_
    refine x_top (fun z260 e_z260 => ?_)
    have g_z260 : (0 : Int) ≤ s0 177 3 ∧ s0 177 3 ≤ 160 := hG0 177 3
    refine x_callV k57_14 (y := 52) (n := 2) (w0 := 0) (w1 := 2) (as := [vi 1, vi z260]) (rest := []) (by decide +kernel) (q := 177) (nq := 7) (kq := 7) ⟨by decide, rfl⟩ rfl rfl rfl rfl (xe_mono (E_X6_fail_177 s0 hG0 1 ⟨by decide, by decide⟩ z260 (by first | exact x_rbe e_z260 g_z260 rfl rfl | exact x_rb g_z260 rfl rfl | exact ⟨by omega, by omega⟩)) ?_)
    rintro s262 v ⟨hG_s262, t_s262, rfl, xp_z261⟩
    have f_s262 : FL [1219, 1220, 1221, 1222, 1223] s0 s262 := f0.tr t_s262 (by decide +kernel)
    have q263 : s262 177 2 = z242 := (t_s262 177 2 (show 1219 ∉ [1222, 1223] from by decide +kernel)).trans e_z242.symm
    have q264 : s262 177 3 = z260 := (t_s262 177 3 (show 1220 ∉ [1222, 1223] from by decide +kernel)).trans e_z260.symm
    have TK_s262 : TKs s262 := TKs.fl i0_TK t_s262 (by decide +kernel)
    obtain ⟨z265, e_z265⟩ : ∃ z, z = s262 177 5 := ⟨_, rfl⟩
    have g_z265 : (0 : Int) ≤ s262 177 5 ∧ s262 177 5 ≤ 5 := hG_s262 177 5
    obtain ⟨z266, e_z266⟩ : ∃ z, z = s262 177 6 := ⟨_, rfl⟩
    have g_z266 : (-2147483648) ≤ s262 177 6 ∧ s262 177 6 ≤ 2147483647 := hG_s262 177 6
    show xe none 57 17 [(0, .ref 177), (1, vi a), (2, vi b), (3, vi d)] [] s262 0 0 _
    refine x_A k57_17 (fun _ => rfl) ?_
    refine x_getI k57_18 (f := 4) rfl (q := 177) (n := 7) (kd := 7) ⟨by decide, rfl⟩ (by decide) rfl ?_
    refine x_top (fun z267 e_z267 => ?_)
    have g_z267 : (0 : Int) ≤ s262 177 4 ∧ s262 177 4 ≤ 160 := hG_s262 177 4
    refine x_A k57_21 (fun _ => rfl) ?_
    refine x_getI k57_22 (f := 3) rfl (q := 177) (n := 7) (kd := 7) ⟨by decide, rfl⟩ (by decide) rfl ?_
    refine x_rw (q264) ?_
    refine x_isub k57_25 ?_
    refine x_top (fun z268 e_z268 => ?_)
    refine x_A k57_26 (fun _ => rfl) ?_
    refine x_ic_le k57_27 (t := 39) rfl (by first | exact x_rbe e_z268 g_z268 rfl rfl | exact x_rb g_z268 rfl rfl | exact ⟨by omega, by omega⟩) (by first | exact x_rb b_d rfl rfl | exact ⟨by omega, by omega⟩) (fun c269 => ?_) (fun c269 => ?_)
    · skip
      refine x_A k57_39 (fun _ => rfl) ?_
      refine x_getI k57_40 (f := 5) rfl (q := 177) (n := 7) (kd := 7) ⟨by decide, rfl⟩ (by decide) rfl ?_
      refine x_rw (e_z265.symm) ?_
      refine x_if_eq k57_43 (t := 48) rfl (by first | exact x_rbe e_z265 g_z265 rfl rfl | exact x_rb g_z265 rfl rfl | exact ⟨by omega, by omega⟩) (fun c270 => by exfalso; omega) (fun c270 => ?_)
      refine x_A k57_46 (fun _ => rfl) ?_
      exact x_iret k57_47 rfl ⟨hG_s262, f_s262, (-1), rfl, ⟨by decide, by decide⟩, ⟨(by unfold NmC NmR nva nx; omega), by omega, by omega⟩, TK_s262⟩
    · skip
      refine x_A k57_30 (fun _ => rfl) ?_
      refine x_A k57_31 (fun _ => rfl) ?_
      refine x_A k57_32 (fun _ => rfl) ?_
      refine x_getI k57_33 (f := 3) rfl (q := 177) (n := 7) (kd := 7) ⟨by decide, rfl⟩ (by decide) rfl ?_
      refine x_rw (q264) ?_
      refine x_callV k57_36 (y := 52) (n := 2) (w0 := 0) (w1 := 2) (as := [vi 2, vi z260]) (rest := []) (by decide +kernel) (q := 177) (nq := 7) (kq := 7) ⟨by decide, rfl⟩ rfl rfl rfl rfl (xe_mono (E_X6_fail_177 s262 hG_s262 2 ⟨by decide, by decide⟩ z260 (by first | exact x_rbe e_z260 g_z260 rfl rfl | exact x_rb g_z260 rfl rfl | exact ⟨by omega, by omega⟩)) ?_)
      rintro s272 v ⟨hG_s272, t_s272, rfl, xp_z271⟩
      have f_s272 : FL [1219, 1220, 1221, 1222, 1223] s0 s272 := f_s262.tr t_s272 (by decide +kernel)
      have q273 : s272 177 2 = z242 := (t_s272 177 2 (show 1219 ∉ [1222, 1223] from by decide +kernel)).trans q263
      have q274 : s272 177 3 = z260 := (t_s272 177 3 (show 1220 ∉ [1222, 1223] from by decide +kernel)).trans q264
      have q275 : s272 177 4 = z267 := (t_s272 177 4 (show 1221 ∉ [1222, 1223] from by decide +kernel)).trans e_z267.symm
      have TK_s272 : TKs s272 := TKs.fl TK_s262 t_s272 (by decide +kernel)
      obtain ⟨z276, e_z276⟩ : ∃ z, z = s272 177 5 := ⟨_, rfl⟩
      have g_z276 : (0 : Int) ≤ s272 177 5 ∧ s272 177 5 ≤ 5 := hG_s272 177 5
      obtain ⟨z277, e_z277⟩ : ∃ z, z = s272 177 6 := ⟨_, rfl⟩
      have g_z277 : (-2147483648) ≤ s272 177 6 ∧ s272 177 6 ≤ 2147483647 := hG_s272 177 6
      show xe none 57 39 [(0, .ref 177), (1, vi a), (2, vi b), (3, vi d)] [] s272 0 0 _
      refine x_A k57_39 (fun _ => rfl) ?_
      refine x_getI k57_40 (f := 5) rfl (q := 177) (n := 7) (kd := 7) ⟨by decide, rfl⟩ (by decide) rfl ?_
      refine x_rw (e_z276.symm) ?_
      refine x_if_eq k57_43 (t := 48) rfl (by first | exact x_rbe e_z276 g_z276 rfl rfl | exact x_rb g_z276 rfl rfl | exact ⟨by omega, by omega⟩) (fun c278 => by exfalso; omega) (fun c278 => ?_)
      refine x_A k57_46 (fun _ => rfl) ?_
      exact x_iret k57_47 rfl ⟨hG_s272, f_s272, (-1), rfl, ⟨by decide, by decide⟩, ⟨(by unfold NmC NmR nva nx; omega), by omega, by omega⟩, TK_s272⟩
set_option maxHeartbeats 8000000 in
theorem wl_0 : cv [116, 111, 110] = 10631 ∧ (∀ c ∈ ([116, 111, 110] : List Int), 97 ≤ c ∧ c ≤ 122) ∧ (10631 : Int) ≤ 10000000000 := by decide
set_option maxHeartbeats 8000000 in
theorem tx_chE_0 (z : Int) (hz : 0 ≤ z ∧ z < 3) : ∃ ch : Int, ((97 ≤ ch ∧ ch ≤ 122) ∧ ch = ([116, 111, 110] : List Int).getD (3 - 1 - z.toNat) 0) ∧ ∀ h, pm_exec none 40 223 0 [(0, .ref 2001), (1, vi z)] [] h 0 0 = some (h, some (vi ch)) := by
  rcases (show z = 0 ∨ z = 1 ∨ z = 2 by omega) with rfl | rfl | rfl
  · exact ⟨110, ⟨⟨by omega, by omega⟩, rfl⟩, tx_ch_0_0⟩
  · exact ⟨111, ⟨⟨by omega, by omega⟩, rfl⟩, tx_ch_0_1⟩
  · exact ⟨116, ⟨⟨by omega, by omega⟩, rfl⟩, tx_ch_0_2⟩
set_option maxHeartbeats 8000000 in
theorem wl_1 : cv [107, 114, 97, 109] = 257105 ∧ (∀ c ∈ ([107, 114, 97, 109] : List Int), 97 ≤ c ∧ c ≤ 122) ∧ (257105 : Int) ≤ 10000000000 := by decide
set_option maxHeartbeats 8000000 in
theorem tx_chE_1 (z : Int) (hz : 0 ≤ z ∧ z < 4) : ∃ ch : Int, ((97 ≤ ch ∧ ch ≤ 122) ∧ ch = ([107, 114, 97, 109] : List Int).getD (4 - 1 - z.toNat) 0) ∧ ∀ h, pm_exec none 40 223 0 [(0, .ref 2002), (1, vi z)] [] h 0 0 = some (h, some (vi ch)) := by
  rcases (show z = 0 ∨ z = 1 ∨ z = 2 ∨ z = 3 by omega) with rfl | rfl | rfl | rfl
  · exact ⟨109, ⟨⟨by omega, by omega⟩, rfl⟩, tx_ch_1_0⟩
  · exact ⟨97, ⟨⟨by omega, by omega⟩, rfl⟩, tx_ch_1_1⟩
  · exact ⟨114, ⟨⟨by omega, by omega⟩, rfl⟩, tx_ch_1_2⟩
  · exact ⟨107, ⟨⟨by omega, by omega⟩, rfl⟩, tx_ch_1_3⟩
set_option maxHeartbeats 8000000 in
theorem wl_2 : cv [100, 114, 111, 119] = 464134 ∧ (∀ c ∈ ([100, 114, 111, 119] : List Int), 97 ≤ c ∧ c ≤ 122) ∧ (464134 : Int) ≤ 10000000000 := by decide
set_option maxHeartbeats 8000000 in
theorem tx_chE_2 (z : Int) (hz : 0 ≤ z ∧ z < 4) : ∃ ch : Int, ((97 ≤ ch ∧ ch ≤ 122) ∧ ch = ([100, 114, 111, 119] : List Int).getD (4 - 1 - z.toNat) 0) ∧ ∀ h, pm_exec none 40 223 0 [(0, .ref 2003), (1, vi z)] [] h 0 0 = some (h, some (vi ch)) := by
  rcases (show z = 0 ∨ z = 1 ∨ z = 2 ∨ z = 3 by omega) with rfl | rfl | rfl | rfl
  · exact ⟨119, ⟨⟨by omega, by omega⟩, rfl⟩, tx_ch_2_0⟩
  · exact ⟨111, ⟨⟨by omega, by omega⟩, rfl⟩, tx_ch_2_1⟩
  · exact ⟨114, ⟨⟨by omega, by omega⟩, rfl⟩, tx_ch_2_2⟩
  · exact ⟨100, ⟨⟨by omega, by omega⟩, rfl⟩, tx_ch_2_3⟩
set_option maxHeartbeats 8000000 in
theorem wl_3 : cv [100, 110, 97, 104] = 158575 ∧ (∀ c ∈ ([100, 110, 97, 104] : List Int), 97 ≤ c ∧ c ≤ 122) ∧ (158575 : Int) ≤ 10000000000 := by decide
set_option maxHeartbeats 8000000 in
theorem tx_chE_3 (z : Int) (hz : 0 ≤ z ∧ z < 4) : ∃ ch : Int, ((97 ≤ ch ∧ ch ≤ 122) ∧ ch = ([100, 110, 97, 104] : List Int).getD (4 - 1 - z.toNat) 0) ∧ ∀ h, pm_exec none 40 223 0 [(0, .ref 2004), (1, vi z)] [] h 0 0 = some (h, some (vi ch)) := by
  rcases (show z = 0 ∨ z = 1 ∨ z = 2 ∨ z = 3 by omega) with rfl | rfl | rfl | rfl
  · exact ⟨104, ⟨⟨by omega, by omega⟩, rfl⟩, tx_ch_3_0⟩
  · exact ⟨97, ⟨⟨by omega, by omega⟩, rfl⟩, tx_ch_3_1⟩
  · exact ⟨110, ⟨⟨by omega, by omega⟩, rfl⟩, tx_ch_3_2⟩
  · exact ⟨100, ⟨⟨by omega, by omega⟩, rfl⟩, tx_ch_3_3⟩
set_option maxHeartbeats 8000000 in
theorem wl_4 : cv [101, 114, 111, 102, 101, 98] = 31484543 ∧ (∀ c ∈ ([101, 114, 111, 102, 101, 98] : List Int), 97 ≤ c ∧ c ≤ 122) ∧ (31484543 : Int) ≤ 10000000000 := by decide
set_option maxHeartbeats 8000000 in
theorem tx_chE_4 (z : Int) (hz : 0 ≤ z ∧ z < 6) : ∃ ch : Int, ((97 ≤ ch ∧ ch ≤ 122) ∧ ch = ([101, 114, 111, 102, 101, 98] : List Int).getD (6 - 1 - z.toNat) 0) ∧ ∀ h, pm_exec none 40 223 0 [(0, .ref 2005), (1, vi z)] [] h 0 0 = some (h, some (vi ch)) := by
  rcases (show z = 0 ∨ z = 1 ∨ z = 2 ∨ z = 3 ∨ z = 4 ∨ z = 5 by omega) with rfl | rfl | rfl | rfl | rfl | rfl
  · exact ⟨98, ⟨⟨by omega, by omega⟩, rfl⟩, tx_ch_4_0⟩
  · exact ⟨101, ⟨⟨by omega, by omega⟩, rfl⟩, tx_ch_4_1⟩
  · exact ⟨102, ⟨⟨by omega, by omega⟩, rfl⟩, tx_ch_4_2⟩
  · exact ⟨111, ⟨⟨by omega, by omega⟩, rfl⟩, tx_ch_4_3⟩
  · exact ⟨114, ⟨⟨by omega, by omega⟩, rfl⟩, tx_ch_4_4⟩
  · exact ⟨101, ⟨⟨by omega, by omega⟩, rfl⟩, tx_ch_4_5⟩
set_option maxHeartbeats 8000000 in
theorem wl_5 : cv [116, 97] = 47 ∧ (∀ c ∈ ([116, 97] : List Int), 97 ≤ c ∧ c ≤ 122) ∧ (47 : Int) ≤ 10000000000 := by decide
set_option maxHeartbeats 8000000 in
theorem tx_chE_5 (z : Int) (hz : 0 ≤ z ∧ z < 2) : ∃ ch : Int, ((97 ≤ ch ∧ ch ≤ 122) ∧ ch = ([116, 97] : List Int).getD (2 - 1 - z.toNat) 0) ∧ ∀ h, pm_exec none 40 223 0 [(0, .ref 2006), (1, vi z)] [] h 0 0 = some (h, some (vi ch)) := by
  rcases (show z = 0 ∨ z = 1 by omega) with rfl | rfl
  · exact ⟨97, ⟨⟨by omega, by omega⟩, rfl⟩, tx_ch_5_0⟩
  · exact ⟨116, ⟨⟨by omega, by omega⟩, rfl⟩, tx_ch_5_1⟩
set_option maxHeartbeats 8000000 in
theorem wl_6 : cv [100, 110, 97] = 1111 ∧ (∀ c ∈ ([100, 110, 97] : List Int), 97 ≤ c ∧ c ≤ 122) ∧ (1111 : Int) ≤ 10000000000 := by decide
set_option maxHeartbeats 8000000 in
theorem tx_chE_6 (z : Int) (hz : 0 ≤ z ∧ z < 3) : ∃ ch : Int, ((97 ≤ ch ∧ ch ≤ 122) ∧ ch = ([100, 110, 97] : List Int).getD (3 - 1 - z.toNat) 0) ∧ ∀ h, pm_exec none 40 223 0 [(0, .ref 2007), (1, vi z)] [] h 0 0 = some (h, some (vi ch)) := by
  rcases (show z = 0 ∨ z = 1 ∨ z = 2 by omega) with rfl | rfl | rfl
  · exact ⟨97, ⟨⟨by omega, by omega⟩, rfl⟩, tx_ch_6_0⟩
  · exact ⟨110, ⟨⟨by omega, by omega⟩, rfl⟩, tx_ch_6_1⟩
  · exact ⟨100, ⟨⟨by omega, by omega⟩, rfl⟩, tx_ch_6_2⟩
set_option maxHeartbeats 8000000 in
theorem wl_7 : cv [114, 111] = 423 ∧ (∀ c ∈ ([114, 111] : List Int), 97 ≤ c ∧ c ≤ 122) ∧ (423 : Int) ≤ 10000000000 := by decide
set_option maxHeartbeats 8000000 in
theorem tx_chE_7 (z : Int) (hz : 0 ≤ z ∧ z < 2) : ∃ ch : Int, ((97 ≤ ch ∧ ch ≤ 122) ∧ ch = ([114, 111] : List Int).getD (2 - 1 - z.toNat) 0) ∧ ∀ h, pm_exec none 40 223 0 [(0, .ref 2008), (1, vi z)] [] h 0 0 = some (h, some (vi ch)) := by
  rcases (show z = 0 ∨ z = 1 by omega) with rfl | rfl
  · exact ⟨111, ⟨⟨by omega, by omega⟩, rfl⟩, tx_ch_7_0⟩
  · exact ⟨114, ⟨⟨by omega, by omega⟩, rfl⟩, tx_ch_7_1⟩
set_option maxHeartbeats 8000000 in
theorem wl_8 : cv [121, 101, 107] = 8179 ∧ (∀ c ∈ ([121, 101, 107] : List Int), 97 ≤ c ∧ c ≤ 122) ∧ (8179 : Int) ≤ 10000000000 := by decide
set_option maxHeartbeats 8000000 in
theorem tx_chE_8 (z : Int) (hz : 0 ≤ z ∧ z < 3) : ∃ ch : Int, ((97 ≤ ch ∧ ch ≤ 122) ∧ ch = ([121, 101, 107] : List Int).getD (3 - 1 - z.toNat) 0) ∧ ∀ h, pm_exec none 40 223 0 [(0, .ref 2009), (1, vi z)] [] h 0 0 = some (h, some (vi ch)) := by
  rcases (show z = 0 ∨ z = 1 ∨ z = 2 by omega) with rfl | rfl | rfl
  · exact ⟨107, ⟨⟨by omega, by omega⟩, rfl⟩, tx_ch_8_0⟩
  · exact ⟨101, ⟨⟨by omega, by omega⟩, rfl⟩, tx_ch_8_1⟩
  · exact ⟨121, ⟨⟨by omega, by omega⟩, rfl⟩, tx_ch_8_2⟩
set_option maxHeartbeats 8000000 in
theorem wl_9 : cv [119, 111, 108, 108, 97] = 776813 ∧ (∀ c ∈ ([119, 111, 108, 108, 97] : List Int), 97 ≤ c ∧ c ≤ 122) ∧ (776813 : Int) ≤ 10000000000 := by decide
set_option maxHeartbeats 8000000 in
theorem tx_chE_9 (z : Int) (hz : 0 ≤ z ∧ z < 5) : ∃ ch : Int, ((97 ≤ ch ∧ ch ≤ 122) ∧ ch = ([119, 111, 108, 108, 97] : List Int).getD (5 - 1 - z.toNat) 0) ∧ ∀ h, pm_exec none 40 223 0 [(0, .ref 2010), (1, vi z)] [] h 0 0 = some (h, some (vi ch)) := by
  rcases (show z = 0 ∨ z = 1 ∨ z = 2 ∨ z = 3 ∨ z = 4 by omega) with rfl | rfl | rfl | rfl | rfl
  · exact ⟨97, ⟨⟨by omega, by omega⟩, rfl⟩, tx_ch_9_0⟩
  · exact ⟨108, ⟨⟨by omega, by omega⟩, rfl⟩, tx_ch_9_1⟩
  · exact ⟨108, ⟨⟨by omega, by omega⟩, rfl⟩, tx_ch_9_2⟩
  · exact ⟨111, ⟨⟨by omega, by omega⟩, rfl⟩, tx_ch_9_3⟩
  · exact ⟨119, ⟨⟨by omega, by omega⟩, rfl⟩, tx_ch_9_4⟩
set_option maxHeartbeats 8000000 in
theorem wl_10 : cv [114, 97, 98] = 1503 ∧ (∀ c ∈ ([114, 97, 98] : List Int), 97 ≤ c ∧ c ≤ 122) ∧ (1503 : Int) ≤ 10000000000 := by decide
set_option maxHeartbeats 8000000 in
theorem tx_chE_10 (z : Int) (hz : 0 ≤ z ∧ z < 3) : ∃ ch : Int, ((97 ≤ ch ∧ ch ≤ 122) ∧ ch = ([114, 97, 98] : List Int).getD (3 - 1 - z.toNat) 0) ∧ ∀ h, pm_exec none 40 223 0 [(0, .ref 2011), (1, vi z)] [] h 0 0 = some (h, some (vi ch)) := by
  rcases (show z = 0 ∨ z = 1 ∨ z = 2 by omega) with rfl | rfl | rfl
  · exact ⟨98, ⟨⟨by omega, by omega⟩, rfl⟩, tx_ch_10_0⟩
  · exact ⟨97, ⟨⟨by omega, by omega⟩, rfl⟩, tx_ch_10_1⟩
  · exact ⟨114, ⟨⟨by omega, by omega⟩, rfl⟩, tx_ch_10_2⟩
set_option maxHeartbeats 8000000 in
theorem wl_11 : cv [100, 101, 101, 110] = 279346 ∧ (∀ c ∈ ([100, 101, 101, 110] : List Int), 97 ≤ c ∧ c ≤ 122) ∧ (279346 : Int) ≤ 10000000000 := by decide
set_option maxHeartbeats 8000000 in
theorem tx_chE_11 (z : Int) (hz : 0 ≤ z ∧ z < 4) : ∃ ch : Int, ((97 ≤ ch ∧ ch ≤ 122) ∧ ch = ([100, 101, 101, 110] : List Int).getD (4 - 1 - z.toNat) 0) ∧ ∀ h, pm_exec none 40 223 0 [(0, .ref 2012), (1, vi z)] [] h 0 0 = some (h, some (vi ch)) := by
  rcases (show z = 0 ∨ z = 1 ∨ z = 2 ∨ z = 3 by omega) with rfl | rfl | rfl | rfl
  · exact ⟨110, ⟨⟨by omega, by omega⟩, rfl⟩, tx_ch_11_0⟩
  · exact ⟨101, ⟨⟨by omega, by omega⟩, rfl⟩, tx_ch_11_1⟩
  · exact ⟨101, ⟨⟨by omega, by omega⟩, rfl⟩, tx_ch_11_2⟩
  · exact ⟨100, ⟨⟨by omega, by omega⟩, rfl⟩, tx_ch_11_3⟩
set_option maxHeartbeats 8000000 in
theorem wl_12 : cv [116, 115, 111, 109] = 267347 ∧ (∀ c ∈ ([116, 115, 111, 109] : List Int), 97 ≤ c ∧ c ≤ 122) ∧ (267347 : Int) ≤ 10000000000 := by decide
set_option maxHeartbeats 8000000 in
theorem tx_chE_12 (z : Int) (hz : 0 ≤ z ∧ z < 4) : ∃ ch : Int, ((97 ≤ ch ∧ ch ≤ 122) ∧ ch = ([116, 115, 111, 109] : List Int).getD (4 - 1 - z.toNat) 0) ∧ ∀ h, pm_exec none 40 223 0 [(0, .ref 2013), (1, vi z)] [] h 0 0 = some (h, some (vi ch)) := by
  rcases (show z = 0 ∨ z = 1 ∨ z = 2 ∨ z = 3 by omega) with rfl | rfl | rfl | rfl
  · exact ⟨109, ⟨⟨by omega, by omega⟩, rfl⟩, tx_ch_12_0⟩
  · exact ⟨111, ⟨⟨by omega, by omega⟩, rfl⟩, tx_ch_12_1⟩
  · exact ⟨115, ⟨⟨by omega, by omega⟩, rfl⟩, tx_ch_12_2⟩
  · exact ⟨116, ⟨⟨by omega, by omega⟩, rfl⟩, tx_ch_12_3⟩
set_option maxHeartbeats 8000000 in
theorem wl_13 : cv [101, 107, 105, 114, 116, 115] = 283619210 ∧ (∀ c ∈ ([101, 107, 105, 114, 116, 115] : List Int), 97 ≤ c ∧ c ≤ 122) ∧ (283619210 : Int) ≤ 10000000000 := by decide
set_option maxHeartbeats 8000000 in
theorem tx_chE_13 (z : Int) (hz : 0 ≤ z ∧ z < 6) : ∃ ch : Int, ((97 ≤ ch ∧ ch ≤ 122) ∧ ch = ([101, 107, 105, 114, 116, 115] : List Int).getD (6 - 1 - z.toNat) 0) ∧ ∀ h, pm_exec none 40 223 0 [(0, .ref 2014), (1, vi z)] [] h 0 0 = some (h, some (vi ch)) := by
  rcases (show z = 0 ∨ z = 1 ∨ z = 2 ∨ z = 3 ∨ z = 4 ∨ z = 5 by omega) with rfl | rfl | rfl | rfl | rfl | rfl
  · exact ⟨115, ⟨⟨by omega, by omega⟩, rfl⟩, tx_ch_13_0⟩
  · exact ⟨116, ⟨⟨by omega, by omega⟩, rfl⟩, tx_ch_13_1⟩
  · exact ⟨114, ⟨⟨by omega, by omega⟩, rfl⟩, tx_ch_13_2⟩
  · exact ⟨105, ⟨⟨by omega, by omega⟩, rfl⟩, tx_ch_13_3⟩
  · exact ⟨107, ⟨⟨by omega, by omega⟩, rfl⟩, tx_ch_13_4⟩
  · exact ⟨101, ⟨⟨by omega, by omega⟩, rfl⟩, tx_ch_13_5⟩
set_option maxHeartbeats 8000000 in
theorem wl_14 : cv [114, 101, 100, 110, 117] = 11438892 ∧ (∀ c ∈ ([114, 101, 100, 110, 117] : List Int), 97 ≤ c ∧ c ≤ 122) ∧ (11438892 : Int) ≤ 10000000000 := by decide
set_option maxHeartbeats 8000000 in
theorem tx_chE_14 (z : Int) (hz : 0 ≤ z ∧ z < 5) : ∃ ch : Int, ((97 ≤ ch ∧ ch ≤ 122) ∧ ch = ([114, 101, 100, 110, 117] : List Int).getD (5 - 1 - z.toNat) 0) ∧ ∀ h, pm_exec none 40 223 0 [(0, .ref 2015), (1, vi z)] [] h 0 0 = some (h, some (vi ch)) := by
  rcases (show z = 0 ∨ z = 1 ∨ z = 2 ∨ z = 3 ∨ z = 4 by omega) with rfl | rfl | rfl | rfl | rfl
  · exact ⟨117, ⟨⟨by omega, by omega⟩, rfl⟩, tx_ch_14_0⟩
  · exact ⟨110, ⟨⟨by omega, by omega⟩, rfl⟩, tx_ch_14_1⟩
  · exact ⟨100, ⟨⟨by omega, by omega⟩, rfl⟩, tx_ch_14_2⟩
  · exact ⟨101, ⟨⟨by omega, by omega⟩, rfl⟩, tx_ch_14_3⟩
  · exact ⟨114, ⟨⟨by omega, by omega⟩, rfl⟩, tx_ch_14_4⟩
set_option maxHeartbeats 8000000 in
theorem wl_15 : cv [104, 116, 105, 119] = 459818 ∧ (∀ c ∈ ([104, 116, 105, 119] : List Int), 97 ≤ c ∧ c ≤ 122) ∧ (459818 : Int) ≤ 10000000000 := by decide
set_option maxHeartbeats 8000000 in
theorem tx_chE_15 (z : Int) (hz : 0 ≤ z ∧ z < 4) : ∃ ch : Int, ((97 ≤ ch ∧ ch ≤ 122) ∧ ch = ([104, 116, 105, 119] : List Int).getD (4 - 1 - z.toNat) 0) ∧ ∀ h, pm_exec none 40 223 0 [(0, .ref 2016), (1, vi z)] [] h 0 0 = some (h, some (vi ch)) := by
  rcases (show z = 0 ∨ z = 1 ∨ z = 2 ∨ z = 3 by omega) with rfl | rfl | rfl | rfl
  · exact ⟨119, ⟨⟨by omega, by omega⟩, rfl⟩, tx_ch_15_0⟩
  · exact ⟨105, ⟨⟨by omega, by omega⟩, rfl⟩, tx_ch_15_1⟩
  · exact ⟨116, ⟨⟨by omega, by omega⟩, rfl⟩, tx_ch_15_2⟩
  · exact ⟨104, ⟨⟨by omega, by omega⟩, rfl⟩, tx_ch_15_3⟩
set_option maxHeartbeats 8000000 in
theorem wl_16 : cv [115, 112, 101, 101, 107] = 5948362 ∧ (∀ c ∈ ([115, 112, 101, 101, 107] : List Int), 97 ≤ c ∧ c ≤ 122) ∧ (5948362 : Int) ≤ 10000000000 := by decide
set_option maxHeartbeats 8000000 in
theorem tx_chE_16 (z : Int) (hz : 0 ≤ z ∧ z < 5) : ∃ ch : Int, ((97 ≤ ch ∧ ch ≤ 122) ∧ ch = ([115, 112, 101, 101, 107] : List Int).getD (5 - 1 - z.toNat) 0) ∧ ∀ h, pm_exec none 40 223 0 [(0, .ref 2017), (1, vi z)] [] h 0 0 = some (h, some (vi ch)) := by
  rcases (show z = 0 ∨ z = 1 ∨ z = 2 ∨ z = 3 ∨ z = 4 by omega) with rfl | rfl | rfl | rfl | rfl
  · exact ⟨107, ⟨⟨by omega, by omega⟩, rfl⟩, tx_ch_16_0⟩
  · exact ⟨101, ⟨⟨by omega, by omega⟩, rfl⟩, tx_ch_16_1⟩
  · exact ⟨101, ⟨⟨by omega, by omega⟩, rfl⟩, tx_ch_16_2⟩
  · exact ⟨112, ⟨⟨by omega, by omega⟩, rfl⟩, tx_ch_16_3⟩
  · exact ⟨115, ⟨⟨by omega, by omega⟩, rfl⟩, tx_ch_16_4⟩
set_option maxHeartbeats 8000000 in
theorem wl_17 : cv [115, 110, 114, 117, 116] = 11055682 ∧ (∀ c ∈ ([115, 110, 114, 117, 116] : List Int), 97 ≤ c ∧ c ≤ 122) ∧ (11055682 : Int) ≤ 10000000000 := by decide
set_option maxHeartbeats 8000000 in
theorem tx_chE_17 (z : Int) (hz : 0 ≤ z ∧ z < 5) : ∃ ch : Int, ((97 ≤ ch ∧ ch ≤ 122) ∧ ch = ([115, 110, 114, 117, 116] : List Int).getD (5 - 1 - z.toNat) 0) ∧ ∀ h, pm_exec none 40 223 0 [(0, .ref 2018), (1, vi z)] [] h 0 0 = some (h, some (vi ch)) := by
  rcases (show z = 0 ∨ z = 1 ∨ z = 2 ∨ z = 3 ∨ z = 4 by omega) with rfl | rfl | rfl | rfl | rfl
  · exact ⟨116, ⟨⟨by omega, by omega⟩, rfl⟩, tx_ch_17_0⟩
  · exact ⟨117, ⟨⟨by omega, by omega⟩, rfl⟩, tx_ch_17_1⟩
  · exact ⟨114, ⟨⟨by omega, by omega⟩, rfl⟩, tx_ch_17_2⟩
  · exact ⟨110, ⟨⟨by omega, by omega⟩, rfl⟩, tx_ch_17_3⟩
  · exact ⟨115, ⟨⟨by omega, by omega⟩, rfl⟩, tx_ch_17_4⟩
set_option maxHeartbeats 8000000 in
theorem wl_18 : cv [115, 101, 115, 105, 97, 114] = 259002919 ∧ (∀ c ∈ ([115, 101, 115, 105, 97, 114] : List Int), 97 ≤ c ∧ c ≤ 122) ∧ (259002919 : Int) ≤ 10000000000 := by decide
set_option maxHeartbeats 8000000 in
theorem tx_chE_18 (z : Int) (hz : 0 ≤ z ∧ z < 6) : ∃ ch : Int, ((97 ≤ ch ∧ ch ≤ 122) ∧ ch = ([115, 101, 115, 105, 97, 114] : List Int).getD (6 - 1 - z.toNat) 0) ∧ ∀ h, pm_exec none 40 223 0 [(0, .ref 2019), (1, vi z)] [] h 0 0 = some (h, some (vi ch)) := by
  rcases (show z = 0 ∨ z = 1 ∨ z = 2 ∨ z = 3 ∨ z = 4 ∨ z = 5 by omega) with rfl | rfl | rfl | rfl | rfl | rfl
  · exact ⟨114, ⟨⟨by omega, by omega⟩, rfl⟩, tx_ch_18_0⟩
  · exact ⟨97, ⟨⟨by omega, by omega⟩, rfl⟩, tx_ch_18_1⟩
  · exact ⟨105, ⟨⟨by omega, by omega⟩, rfl⟩, tx_ch_18_2⟩
  · exact ⟨115, ⟨⟨by omega, by omega⟩, rfl⟩, tx_ch_18_3⟩
  · exact ⟨101, ⟨⟨by omega, by omega⟩, rfl⟩, tx_ch_18_4⟩
  · exact ⟨115, ⟨⟨by omega, by omega⟩, rfl⟩, tx_ch_18_5⟩
set_option maxHeartbeats 8000000 in
theorem L_E_X6_isWord_177_2001_28 (s0 : xS)   : ∀ (n : Nat) (s : xS) (x2 : Int) (hG : GI s) (f : FL [] s0 s) (b_x2 : 0 ≤ x2 ∧ x2 ≤ 3) (w_0 : kd (s0 178) (s0 177 1) (s0 177 3) = 1) (w_1 : te (s0 178) (s0 177 1) (s0 177 3) - s0 177 3 = 3) (w_2 : ∀ i : Nat, (i : Int) < x2 → s0 178 (s0 177 3 + (i : Int)).toNat = ([116, 111, 110] : List Int).getD (3 - 1 - i) 0) (w_3 : 0 ≤ s0 177 3 ∧ s0 177 3 + 3 ≤ s0 177 1)  (hm : (3 - x2) < (n : Int)), xe none 53 28 [(0, .ref 177), (1, .ref 2001), (2, vi x2)] [] s 0 0 (fun s' v => GI s' ∧ FL [] s0 s' ∧ ∃ z, v = some (vi z) ∧ (0 ≤ z ∧ z ≤ 1) ∧ ((z = 1 ∧ wv (s0 178) (s0 177 1) (s0 177 3) = 10631) ∨ (z = 0 ∧ wv (s0 178) (s0 177 1) (s0 177 3) ≠ 10631))) := by
  intro n
  induction n with
  | zero => intro s x2 hG f b_x2 w_0 w_1 w_2 w_3  hm; exfalso; omega
  | succ n ih =>
    intro s x2 hG f b_x2 w_0 w_1 w_2 w_3  hm
    refine x_A k53_28 (fun _ => rfl) ?_
    refine x_A k53_29 (fun _ => rfl) ?_
    refine x_callX k53_30 (y := 222) (as := [.ref 2001]) (rest := [vi x2]) (fun _ => rfl) rfl rfl tx_len_0 ?_
    refine x_ic_ge k53_33 (t := 62) rfl (by first | exact x_rb b_x2 rfl rfl | exact ⟨by omega, by omega⟩) ⟨by decide, by decide⟩ (fun c60 => ?_) (fun c60 => ?_)
    · skip
      refine x_A k53_62 (fun _ => rfl) ?_
      exact x_zret k53_63 rfl ⟨by omega, by omega⟩ ⟨hG, f, 1, rfl, ⟨by decide, by decide⟩, Or.inl ⟨rfl, wv_yes wl_0 w_0 w_1 (fun i hi => w_2 i (by have hi : i < 3 := hi; omega))⟩⟩
    · skip
      refine x_A k53_36 (fun _ => rfl) ?_
      refine x_A k53_37 (fun _ => rfl) ?_
      refine x_getI k53_38 (f := 3) rfl (q := 177) (n := 7) (kd := 7) ⟨by decide, rfl⟩ (by decide) rfl ?_
      refine x_top (fun z61 e_z61 => ?_)
      have g_z61 : (0 : Int) ≤ s 177 3 ∧ s 177 3 ≤ 160 := hG 177 3
      refine x_A k53_41 (fun _ => rfl) ?_
      refine x_iadd k53_42 ?_
      refine x_top (fun z62 e_z62 => ?_)
      have f1 : s 177 1 = s0 177 1 := by rw [f.nil]
      have f3 : s 177 3 = s0 177 3 := by rw [f.nil]
      refine x_callV k53_43 (y := 49) (n := 1) (w0 := 0) (w1 := 1) (as := [vi z62]) (rest := []) (by decide +kernel) (q := 177) (nq := 7) (kq := 7) ⟨by decide, rfl⟩ rfl rfl rfl rfl (xe_mono (E_X6_byteAt_177 s hG z62 (by first | exact x_rbe e_z62 g_z62 rfl rfl | exact x_rb g_z62 rfl rfl | exact ⟨by omega, by omega⟩)) ?_)
      rintro s64 v ⟨h_s64, z63, rfl, g_z63⟩
      rw [h_s64]
      show xe none 53 46 [(0, .ref 177), (1, .ref 2001), (2, vi x2)] [vi z63] s 0 0 _
      refine x_A k53_46 (fun _ => rfl) ?_
      refine x_A k53_47 (fun _ => rfl) ?_
      obtain ⟨z65, g_z65, x_z65⟩ := tx_chE_0 x2 ⟨by omega, by omega⟩
      refine x_callX k53_48 (y := 223) (as := [.ref 2001, vi x2]) (rest := [vi z63]) (fun _ => rfl) rfl rfl x_z65 ?_
      have hb_ : z63 = s0 178 (s0 177 3 + x2).toNat := by rw [← f.nil, show s 177 3 + x2 = z62 by omega]; omega
      refine x_ic_eq k53_51 (t := 56) rfl (by first | exact x_rbe e_z63 g_z63 rfl rfl | exact x_rb g_z63 rfl rfl | exact ⟨by omega, by omega⟩) (by first | exact x_rbe e_z65 g_z65 rfl rfl | exact x_rb g_z65 rfl rfl | exact ⟨by omega, by omega⟩) (fun c66 => ?_) (fun c66 => ?_)
      · skip
        refine x_iinc k53_56 (ls' := [(2, vi (x2 + 1)), (0, .ref 177), (1, .ref 2001)]) rfl (by decide) rfl ?_
        refine x_goto k53_59 (t := 28) rfl ?_
        refine x_ls (l := [(0, .ref 177), (1, .ref 2001), (2, vi (x2 + 1))]) (show ([0, 1, 2] : List Nat).Nodup from by decide +kernel) ⟨rfl, rfl, rfl, trivial⟩ ?_
        exact ih s (x2 + 1) hG f ⟨by omega, by omega⟩ w_0 w_1 (fun i hi => (Decidable.em ((i : Int) = x2)).elim (fun e => by rw [e, show i = x2.toNat by omega]; omega) (fun e => w_2 i (by omega))) (by omega)  (by omega)
      · skip
        have nch : s0 178 (s0 177 3 + x2).toNat ≠ ([116, 111, 110] : List Int).getD (3 - 1 - x2.toNat) 0 := by omega
        refine x_A k53_54 (fun _ => rfl) ?_
        exact x_zret k53_55 rfl ⟨by omega, by omega⟩ ⟨hG, f, 0, rfl, ⟨by decide, by decide⟩, Or.inr ⟨rfl, wv_nc wl_0 x2.toNat (show x2.toNat < 3 by omega) (by rw [show s0 177 3 + ((x2.toNat : Nat) : Int) = s0 177 3 + x2 by omega]; exact nch)⟩⟩
set_option maxHeartbeats 8000000 in
theorem E_X6_isWord_177_2001 (s0 : xS) (hG0 : GI s0) (i0_TK : TKs s0) : xe none 53 0 (lv_args 0 [.ref 177, .ref 2001]) [] s0 0 0 (fun s' v => GI s' ∧ FL [] s0 s' ∧ ∃ z, v = some (vi z) ∧ (0 ≤ z ∧ z ≤ 1) ∧ ((z = 1 ∧ wv (s0 178) (s0 177 1) (s0 177 3) = 10631) ∨ (z = 0 ∧ wv (s0 178) (s0 177 1) (s0 177 3) ≠ 10631))) := by
  have f0 : FL [] s0 s0 := FL.rf
  show xe none 53 0 [(0, .ref 177), (1, .ref 2001)] [] s0 0 0 _
  have tk := i0_TK
  unfold TKs TK at tk
  have tl := te_le (T := s0 178) (n := s0 177 1) (p := s0 177 3)
  refine x_A k53_0 (fun _ => rfl) ?_
  refine x_getI k53_1 (f := 2) rfl (q := 177) (n := 7) (kd := 7) ⟨by decide, rfl⟩ (by decide) rfl ?_
  refine x_top (fun z67 e_z67 => ?_)
  have g_z67 : (0 : Int) ≤ s0 177 2 ∧ s0 177 2 ≤ 3 := hG0 177 2
  refine x_A k53_4 (fun _ => rfl) ?_
  refine x_ic_ne k53_5 (t := 24) rfl (by first | exact x_rbe e_z67 g_z67 rfl rfl | exact x_rb g_z67 rfl rfl | exact ⟨by omega, by omega⟩) ⟨by decide, by decide⟩ (fun c68 => ?_) (fun c68 => ?_)
  · skip
    refine x_A k53_24 (fun _ => rfl) ?_
    exact x_zret k53_25 rfl ⟨by omega, by omega⟩ ⟨hG0, f0, 0, rfl, ⟨by decide, by decide⟩, Or.inr ⟨rfl, by rw [wv_0 (by omega)]; decide⟩⟩
  · skip
    refine x_A k53_8 (fun _ => rfl) ?_
    refine x_getI k53_9 (f := 4) rfl (q := 177) (n := 7) (kd := 7) ⟨by decide, rfl⟩ (by decide) rfl ?_
    refine x_top (fun z69 e_z69 => ?_)
    have g_z69 : (0 : Int) ≤ s0 177 4 ∧ s0 177 4 ≤ 160 := hG0 177 4
    refine x_A k53_12 (fun _ => rfl) ?_
    refine x_getI k53_13 (f := 3) rfl (q := 177) (n := 7) (kd := 7) ⟨by decide, rfl⟩ (by decide) rfl ?_
    refine x_top (fun z70 e_z70 => ?_)
    have g_z70 : (0 : Int) ≤ s0 177 3 ∧ s0 177 3 ≤ 160 := hG0 177 3
    refine x_isub k53_16 ?_
    refine x_top (fun z71 e_z71 => ?_)
    refine x_A k53_17 (fun _ => rfl) ?_
    refine x_callX k53_18 (y := 222) (as := [.ref 2001]) (rest := [vi z71]) (fun _ => rfl) rfl rfl tx_len_0 ?_
    refine x_ic_eq k53_21 (t := 26) rfl (by first | exact x_rbe e_z71 g_z71 rfl rfl | exact x_rb g_z71 rfl rfl | exact ⟨by omega, by omega⟩) ⟨by decide, by decide⟩ (fun c72 => ?_) (fun c72 => ?_)
    · skip
      refine x_A k53_26 (fun _ => rfl) ?_
      refine x_istore_n k53_27 (ls' := [(2, vi 0), (0, .ref 177), (1, .ref 2001)]) (by decide) rfl ?_
      refine x_ls (l := [(0, .ref 177), (1, .ref 2001), (2, vi 0)]) (show ([0, 1, 2] : List Nat).Nodup from by decide +kernel) ⟨rfl, rfl, rfl, trivial⟩ ?_
      exact L_E_X6_isWord_177_2001_28 s0   (((3 - 0) + 1 : Int)).toNat s0 0 hG0 f0 ⟨by decide, by decide⟩ (by omega) (by omega) (fun i hi => by omega) (by omega)  (by omega)
    · skip
      refine x_A k53_24 (fun _ => rfl) ?_
      exact x_zret k53_25 rfl ⟨by omega, by omega⟩ ⟨hG0, f0, 0, rfl, ⟨by decide, by decide⟩, Or.inr ⟨rfl, wv_nl wl_0 (by omega) (show te (s0 178) (s0 177 1) (s0 177 3) - s0 177 3 ≠ (3 : Int) by omega)⟩⟩
set_option maxHeartbeats 8000000 in
theorem L_E_X6_isWord_177_2002_28 (s0 : xS)   : ∀ (n : Nat) (s : xS) (x2 : Int) (hG : GI s) (f : FL [] s0 s) (b_x2 : 0 ≤ x2 ∧ x2 ≤ 5) (w_0 : kd (s0 178) (s0 177 1) (s0 177 3) = 1) (w_1 : te (s0 178) (s0 177 1) (s0 177 3) - s0 177 3 = 4) (w_2 : ∀ i : Nat, (i : Int) < x2 → s0 178 (s0 177 3 + (i : Int)).toNat = ([107, 114, 97, 109] : List Int).getD (4 - 1 - i) 0) (w_3 : 0 ≤ s0 177 3 ∧ s0 177 3 + 4 ≤ s0 177 1)  (hm : (5 - x2) < (n : Int)), xe none 53 28 [(0, .ref 177), (1, .ref 2002), (2, vi x2)] [] s 0 0 (fun s' v => GI s' ∧ FL [] s0 s' ∧ ∃ z, v = some (vi z) ∧ (0 ≤ z ∧ z ≤ 1) ∧ ((z = 1 ∧ wv (s0 178) (s0 177 1) (s0 177 3) = 257105) ∨ (z = 0 ∧ wv (s0 178) (s0 177 1) (s0 177 3) ≠ 257105))) := by
  intro n
  induction n with
  | zero => intro s x2 hG f b_x2 w_0 w_1 w_2 w_3  hm; exfalso; omega
  | succ n ih =>
    intro s x2 hG f b_x2 w_0 w_1 w_2 w_3  hm
    refine x_A k53_28 (fun _ => rfl) ?_
    refine x_A k53_29 (fun _ => rfl) ?_
    refine x_callX k53_30 (y := 222) (as := [.ref 2002]) (rest := [vi x2]) (fun _ => rfl) rfl rfl tx_len_1 ?_
    refine x_ic_ge k53_33 (t := 62) rfl (by first | exact x_rb b_x2 rfl rfl | exact ⟨by omega, by omega⟩) ⟨by decide, by decide⟩ (fun c73 => ?_) (fun c73 => ?_)
    · skip
      refine x_A k53_62 (fun _ => rfl) ?_
      exact x_zret k53_63 rfl ⟨by omega, by omega⟩ ⟨hG, f, 1, rfl, ⟨by decide, by decide⟩, Or.inl ⟨rfl, wv_yes wl_1 w_0 w_1 (fun i hi => w_2 i (by have hi : i < 4 := hi; omega))⟩⟩
    · skip
      refine x_A k53_36 (fun _ => rfl) ?_
      refine x_A k53_37 (fun _ => rfl) ?_
      refine x_getI k53_38 (f := 3) rfl (q := 177) (n := 7) (kd := 7) ⟨by decide, rfl⟩ (by decide) rfl ?_
      refine x_top (fun z74 e_z74 => ?_)
      have g_z74 : (0 : Int) ≤ s 177 3 ∧ s 177 3 ≤ 160 := hG 177 3
      refine x_A k53_41 (fun _ => rfl) ?_
      refine x_iadd k53_42 ?_
      refine x_top (fun z75 e_z75 => ?_)
      have f1 : s 177 1 = s0 177 1 := by rw [f.nil]
      have f3 : s 177 3 = s0 177 3 := by rw [f.nil]
      refine x_callV k53_43 (y := 49) (n := 1) (w0 := 0) (w1 := 1) (as := [vi z75]) (rest := []) (by decide +kernel) (q := 177) (nq := 7) (kq := 7) ⟨by decide, rfl⟩ rfl rfl rfl rfl (xe_mono (E_X6_byteAt_177 s hG z75 (by first | exact x_rbe e_z75 g_z75 rfl rfl | exact x_rb g_z75 rfl rfl | exact ⟨by omega, by omega⟩)) ?_)
      rintro s77 v ⟨h_s77, z76, rfl, g_z76⟩
      rw [h_s77]
      show xe none 53 46 [(0, .ref 177), (1, .ref 2002), (2, vi x2)] [vi z76] s 0 0 _
      refine x_A k53_46 (fun _ => rfl) ?_
      refine x_A k53_47 (fun _ => rfl) ?_
      obtain ⟨z78, g_z78, x_z78⟩ := tx_chE_1 x2 ⟨by omega, by omega⟩
      refine x_callX k53_48 (y := 223) (as := [.ref 2002, vi x2]) (rest := [vi z76]) (fun _ => rfl) rfl rfl x_z78 ?_
      have hb_ : z76 = s0 178 (s0 177 3 + x2).toNat := by rw [← f.nil, show s 177 3 + x2 = z75 by omega]; omega
      refine x_ic_eq k53_51 (t := 56) rfl (by first | exact x_rbe e_z76 g_z76 rfl rfl | exact x_rb g_z76 rfl rfl | exact ⟨by omega, by omega⟩) (by first | exact x_rbe e_z78 g_z78 rfl rfl | exact x_rb g_z78 rfl rfl | exact ⟨by omega, by omega⟩) (fun c79 => ?_) (fun c79 => ?_)
      · skip
        refine x_iinc k53_56 (ls' := [(2, vi (x2 + 1)), (0, .ref 177), (1, .ref 2002)]) rfl (by decide) rfl ?_
        refine x_goto k53_59 (t := 28) rfl ?_
        refine x_ls (l := [(0, .ref 177), (1, .ref 2002), (2, vi (x2 + 1))]) (show ([0, 1, 2] : List Nat).Nodup from by decide +kernel) ⟨rfl, rfl, rfl, trivial⟩ ?_
        exact ih s (x2 + 1) hG f ⟨by omega, by omega⟩ w_0 w_1 (fun i hi => (Decidable.em ((i : Int) = x2)).elim (fun e => by rw [e, show i = x2.toNat by omega]; omega) (fun e => w_2 i (by omega))) (by omega)  (by omega)
      · skip
        have nch : s0 178 (s0 177 3 + x2).toNat ≠ ([107, 114, 97, 109] : List Int).getD (4 - 1 - x2.toNat) 0 := by omega
        refine x_A k53_54 (fun _ => rfl) ?_
        exact x_zret k53_55 rfl ⟨by omega, by omega⟩ ⟨hG, f, 0, rfl, ⟨by decide, by decide⟩, Or.inr ⟨rfl, wv_nc wl_1 x2.toNat (show x2.toNat < 4 by omega) (by rw [show s0 177 3 + ((x2.toNat : Nat) : Int) = s0 177 3 + x2 by omega]; exact nch)⟩⟩
set_option maxHeartbeats 8000000 in
theorem E_X6_isWord_177_2002 (s0 : xS) (hG0 : GI s0) (i0_TK : TKs s0) : xe none 53 0 (lv_args 0 [.ref 177, .ref 2002]) [] s0 0 0 (fun s' v => GI s' ∧ FL [] s0 s' ∧ ∃ z, v = some (vi z) ∧ (0 ≤ z ∧ z ≤ 1) ∧ ((z = 1 ∧ wv (s0 178) (s0 177 1) (s0 177 3) = 257105) ∨ (z = 0 ∧ wv (s0 178) (s0 177 1) (s0 177 3) ≠ 257105))) := by
  have f0 : FL [] s0 s0 := FL.rf
  show xe none 53 0 [(0, .ref 177), (1, .ref 2002)] [] s0 0 0 _
  have tk := i0_TK
  unfold TKs TK at tk
  have tl := te_le (T := s0 178) (n := s0 177 1) (p := s0 177 3)
  refine x_A k53_0 (fun _ => rfl) ?_
  refine x_getI k53_1 (f := 2) rfl (q := 177) (n := 7) (kd := 7) ⟨by decide, rfl⟩ (by decide) rfl ?_
  refine x_top (fun z80 e_z80 => ?_)
  have g_z80 : (0 : Int) ≤ s0 177 2 ∧ s0 177 2 ≤ 3 := hG0 177 2
  refine x_A k53_4 (fun _ => rfl) ?_
  refine x_ic_ne k53_5 (t := 24) rfl (by first | exact x_rbe e_z80 g_z80 rfl rfl | exact x_rb g_z80 rfl rfl | exact ⟨by omega, by omega⟩) ⟨by decide, by decide⟩ (fun c81 => ?_) (fun c81 => ?_)
  · skip
    refine x_A k53_24 (fun _ => rfl) ?_
    exact x_zret k53_25 rfl ⟨by omega, by omega⟩ ⟨hG0, f0, 0, rfl, ⟨by decide, by decide⟩, Or.inr ⟨rfl, by rw [wv_0 (by omega)]; decide⟩⟩
  · skip
    refine x_A k53_8 (fun _ => rfl) ?_
    refine x_getI k53_9 (f := 4) rfl (q := 177) (n := 7) (kd := 7) ⟨by decide, rfl⟩ (by decide) rfl ?_
    refine x_top (fun z82 e_z82 => ?_)
    have g_z82 : (0 : Int) ≤ s0 177 4 ∧ s0 177 4 ≤ 160 := hG0 177 4
    refine x_A k53_12 (fun _ => rfl) ?_
    refine x_getI k53_13 (f := 3) rfl (q := 177) (n := 7) (kd := 7) ⟨by decide, rfl⟩ (by decide) rfl ?_
    refine x_top (fun z83 e_z83 => ?_)
    have g_z83 : (0 : Int) ≤ s0 177 3 ∧ s0 177 3 ≤ 160 := hG0 177 3
    refine x_isub k53_16 ?_
    refine x_top (fun z84 e_z84 => ?_)
    refine x_A k53_17 (fun _ => rfl) ?_
    refine x_callX k53_18 (y := 222) (as := [.ref 2002]) (rest := [vi z84]) (fun _ => rfl) rfl rfl tx_len_1 ?_
    refine x_ic_eq k53_21 (t := 26) rfl (by first | exact x_rbe e_z84 g_z84 rfl rfl | exact x_rb g_z84 rfl rfl | exact ⟨by omega, by omega⟩) ⟨by decide, by decide⟩ (fun c85 => ?_) (fun c85 => ?_)
    · skip
      refine x_A k53_26 (fun _ => rfl) ?_
      refine x_istore_n k53_27 (ls' := [(2, vi 0), (0, .ref 177), (1, .ref 2002)]) (by decide) rfl ?_
      refine x_ls (l := [(0, .ref 177), (1, .ref 2002), (2, vi 0)]) (show ([0, 1, 2] : List Nat).Nodup from by decide +kernel) ⟨rfl, rfl, rfl, trivial⟩ ?_
      exact L_E_X6_isWord_177_2002_28 s0   (((5 - 0) + 1 : Int)).toNat s0 0 hG0 f0 ⟨by decide, by decide⟩ (by omega) (by omega) (fun i hi => by omega) (by omega)  (by omega)
    · skip
      refine x_A k53_24 (fun _ => rfl) ?_
      exact x_zret k53_25 rfl ⟨by omega, by omega⟩ ⟨hG0, f0, 0, rfl, ⟨by decide, by decide⟩, Or.inr ⟨rfl, wv_nl wl_1 (by omega) (show te (s0 178) (s0 177 1) (s0 177 3) - s0 177 3 ≠ (4 : Int) by omega)⟩⟩
set_option maxHeartbeats 8000000 in
theorem L_E_X6_isWord_177_2003_28 (s0 : xS)   : ∀ (n : Nat) (s : xS) (x2 : Int) (hG : GI s) (f : FL [] s0 s) (b_x2 : 0 ≤ x2 ∧ x2 ≤ 5) (w_0 : kd (s0 178) (s0 177 1) (s0 177 3) = 1) (w_1 : te (s0 178) (s0 177 1) (s0 177 3) - s0 177 3 = 4) (w_2 : ∀ i : Nat, (i : Int) < x2 → s0 178 (s0 177 3 + (i : Int)).toNat = ([100, 114, 111, 119] : List Int).getD (4 - 1 - i) 0) (w_3 : 0 ≤ s0 177 3 ∧ s0 177 3 + 4 ≤ s0 177 1)  (hm : (5 - x2) < (n : Int)), xe none 53 28 [(0, .ref 177), (1, .ref 2003), (2, vi x2)] [] s 0 0 (fun s' v => GI s' ∧ FL [] s0 s' ∧ ∃ z, v = some (vi z) ∧ (0 ≤ z ∧ z ≤ 1) ∧ ((z = 1 ∧ wv (s0 178) (s0 177 1) (s0 177 3) = 464134) ∨ (z = 0 ∧ wv (s0 178) (s0 177 1) (s0 177 3) ≠ 464134))) := by
  intro n
  induction n with
  | zero => intro s x2 hG f b_x2 w_0 w_1 w_2 w_3  hm; exfalso; omega
  | succ n ih =>
    intro s x2 hG f b_x2 w_0 w_1 w_2 w_3  hm
    refine x_A k53_28 (fun _ => rfl) ?_
    refine x_A k53_29 (fun _ => rfl) ?_
    refine x_callX k53_30 (y := 222) (as := [.ref 2003]) (rest := [vi x2]) (fun _ => rfl) rfl rfl tx_len_2 ?_
    refine x_ic_ge k53_33 (t := 62) rfl (by first | exact x_rb b_x2 rfl rfl | exact ⟨by omega, by omega⟩) ⟨by decide, by decide⟩ (fun c73 => ?_) (fun c73 => ?_)
    · skip
      refine x_A k53_62 (fun _ => rfl) ?_
      exact x_zret k53_63 rfl ⟨by omega, by omega⟩ ⟨hG, f, 1, rfl, ⟨by decide, by decide⟩, Or.inl ⟨rfl, wv_yes wl_2 w_0 w_1 (fun i hi => w_2 i (by have hi : i < 4 := hi; omega))⟩⟩
    · skip
      refine x_A k53_36 (fun _ => rfl) ?_
      refine x_A k53_37 (fun _ => rfl) ?_
      refine x_getI k53_38 (f := 3) rfl (q := 177) (n := 7) (kd := 7) ⟨by decide, rfl⟩ (by decide) rfl ?_
      refine x_top (fun z74 e_z74 => ?_)
      have g_z74 : (0 : Int) ≤ s 177 3 ∧ s 177 3 ≤ 160 := hG 177 3
      refine x_A k53_41 (fun _ => rfl) ?_
      refine x_iadd k53_42 ?_
      refine x_top (fun z75 e_z75 => ?_)
      have f1 : s 177 1 = s0 177 1 := by rw [f.nil]
      have f3 : s 177 3 = s0 177 3 := by rw [f.nil]
      refine x_callV k53_43 (y := 49) (n := 1) (w0 := 0) (w1 := 1) (as := [vi z75]) (rest := []) (by decide +kernel) (q := 177) (nq := 7) (kq := 7) ⟨by decide, rfl⟩ rfl rfl rfl rfl (xe_mono (E_X6_byteAt_177 s hG z75 (by first | exact x_rbe e_z75 g_z75 rfl rfl | exact x_rb g_z75 rfl rfl | exact ⟨by omega, by omega⟩)) ?_)
      rintro s77 v ⟨h_s77, z76, rfl, g_z76⟩
      rw [h_s77]
      show xe none 53 46 [(0, .ref 177), (1, .ref 2003), (2, vi x2)] [vi z76] s 0 0 _
      refine x_A k53_46 (fun _ => rfl) ?_
      refine x_A k53_47 (fun _ => rfl) ?_
      obtain ⟨z78, g_z78, x_z78⟩ := tx_chE_2 x2 ⟨by omega, by omega⟩
      refine x_callX k53_48 (y := 223) (as := [.ref 2003, vi x2]) (rest := [vi z76]) (fun _ => rfl) rfl rfl x_z78 ?_
      have hb_ : z76 = s0 178 (s0 177 3 + x2).toNat := by rw [← f.nil, show s 177 3 + x2 = z75 by omega]; omega
      refine x_ic_eq k53_51 (t := 56) rfl (by first | exact x_rbe e_z76 g_z76 rfl rfl | exact x_rb g_z76 rfl rfl | exact ⟨by omega, by omega⟩) (by first | exact x_rbe e_z78 g_z78 rfl rfl | exact x_rb g_z78 rfl rfl | exact ⟨by omega, by omega⟩) (fun c79 => ?_) (fun c79 => ?_)
      · skip
        refine x_iinc k53_56 (ls' := [(2, vi (x2 + 1)), (0, .ref 177), (1, .ref 2003)]) rfl (by decide) rfl ?_
        refine x_goto k53_59 (t := 28) rfl ?_
        refine x_ls (l := [(0, .ref 177), (1, .ref 2003), (2, vi (x2 + 1))]) (show ([0, 1, 2] : List Nat).Nodup from by decide +kernel) ⟨rfl, rfl, rfl, trivial⟩ ?_
        exact ih s (x2 + 1) hG f ⟨by omega, by omega⟩ w_0 w_1 (fun i hi => (Decidable.em ((i : Int) = x2)).elim (fun e => by rw [e, show i = x2.toNat by omega]; omega) (fun e => w_2 i (by omega))) (by omega)  (by omega)
      · skip
        have nch : s0 178 (s0 177 3 + x2).toNat ≠ ([100, 114, 111, 119] : List Int).getD (4 - 1 - x2.toNat) 0 := by omega
        refine x_A k53_54 (fun _ => rfl) ?_
        exact x_zret k53_55 rfl ⟨by omega, by omega⟩ ⟨hG, f, 0, rfl, ⟨by decide, by decide⟩, Or.inr ⟨rfl, wv_nc wl_2 x2.toNat (show x2.toNat < 4 by omega) (by rw [show s0 177 3 + ((x2.toNat : Nat) : Int) = s0 177 3 + x2 by omega]; exact nch)⟩⟩
set_option maxHeartbeats 8000000 in
theorem E_X6_isWord_177_2003 (s0 : xS) (hG0 : GI s0) (i0_TK : TKs s0) : xe none 53 0 (lv_args 0 [.ref 177, .ref 2003]) [] s0 0 0 (fun s' v => GI s' ∧ FL [] s0 s' ∧ ∃ z, v = some (vi z) ∧ (0 ≤ z ∧ z ≤ 1) ∧ ((z = 1 ∧ wv (s0 178) (s0 177 1) (s0 177 3) = 464134) ∨ (z = 0 ∧ wv (s0 178) (s0 177 1) (s0 177 3) ≠ 464134))) := by
  have f0 : FL [] s0 s0 := FL.rf
  show xe none 53 0 [(0, .ref 177), (1, .ref 2003)] [] s0 0 0 _
  have tk := i0_TK
  unfold TKs TK at tk
  have tl := te_le (T := s0 178) (n := s0 177 1) (p := s0 177 3)
  refine x_A k53_0 (fun _ => rfl) ?_
  refine x_getI k53_1 (f := 2) rfl (q := 177) (n := 7) (kd := 7) ⟨by decide, rfl⟩ (by decide) rfl ?_
  refine x_top (fun z80 e_z80 => ?_)
  have g_z80 : (0 : Int) ≤ s0 177 2 ∧ s0 177 2 ≤ 3 := hG0 177 2
  refine x_A k53_4 (fun _ => rfl) ?_
  refine x_ic_ne k53_5 (t := 24) rfl (by first | exact x_rbe e_z80 g_z80 rfl rfl | exact x_rb g_z80 rfl rfl | exact ⟨by omega, by omega⟩) ⟨by decide, by decide⟩ (fun c81 => ?_) (fun c81 => ?_)
  · skip
    refine x_A k53_24 (fun _ => rfl) ?_
    exact x_zret k53_25 rfl ⟨by omega, by omega⟩ ⟨hG0, f0, 0, rfl, ⟨by decide, by decide⟩, Or.inr ⟨rfl, by rw [wv_0 (by omega)]; decide⟩⟩
  · skip
    refine x_A k53_8 (fun _ => rfl) ?_
    refine x_getI k53_9 (f := 4) rfl (q := 177) (n := 7) (kd := 7) ⟨by decide, rfl⟩ (by decide) rfl ?_
    refine x_top (fun z82 e_z82 => ?_)
    have g_z82 : (0 : Int) ≤ s0 177 4 ∧ s0 177 4 ≤ 160 := hG0 177 4
    refine x_A k53_12 (fun _ => rfl) ?_
    refine x_getI k53_13 (f := 3) rfl (q := 177) (n := 7) (kd := 7) ⟨by decide, rfl⟩ (by decide) rfl ?_
    refine x_top (fun z83 e_z83 => ?_)
    have g_z83 : (0 : Int) ≤ s0 177 3 ∧ s0 177 3 ≤ 160 := hG0 177 3
    refine x_isub k53_16 ?_
    refine x_top (fun z84 e_z84 => ?_)
    refine x_A k53_17 (fun _ => rfl) ?_
    refine x_callX k53_18 (y := 222) (as := [.ref 2003]) (rest := [vi z84]) (fun _ => rfl) rfl rfl tx_len_2 ?_
    refine x_ic_eq k53_21 (t := 26) rfl (by first | exact x_rbe e_z84 g_z84 rfl rfl | exact x_rb g_z84 rfl rfl | exact ⟨by omega, by omega⟩) ⟨by decide, by decide⟩ (fun c85 => ?_) (fun c85 => ?_)
    · skip
      refine x_A k53_26 (fun _ => rfl) ?_
      refine x_istore_n k53_27 (ls' := [(2, vi 0), (0, .ref 177), (1, .ref 2003)]) (by decide) rfl ?_
      refine x_ls (l := [(0, .ref 177), (1, .ref 2003), (2, vi 0)]) (show ([0, 1, 2] : List Nat).Nodup from by decide +kernel) ⟨rfl, rfl, rfl, trivial⟩ ?_
      exact L_E_X6_isWord_177_2003_28 s0   (((5 - 0) + 1 : Int)).toNat s0 0 hG0 f0 ⟨by decide, by decide⟩ (by omega) (by omega) (fun i hi => by omega) (by omega)  (by omega)
    · skip
      refine x_A k53_24 (fun _ => rfl) ?_
      exact x_zret k53_25 rfl ⟨by omega, by omega⟩ ⟨hG0, f0, 0, rfl, ⟨by decide, by decide⟩, Or.inr ⟨rfl, wv_nl wl_2 (by omega) (show te (s0 178) (s0 177 1) (s0 177 3) - s0 177 3 ≠ (4 : Int) by omega)⟩⟩
