set_option maxHeartbeats 8000000 in
theorem L_E_X11_ask_256_58 (s0 : xS)   : ∀ (n : Nat) (s : xS) (x1 : Int) (x1000 : Int) (x1001 : Int) (x1002 : Int) (x1003 : Int) (x1004 : Int) (x1005 : Int) (x1006 : Int) (hG : GI s) (f : FL [4133, 4136, 4132, 4134, 4135, 6080, 6144, 4144, 4145, 4148, 4147, 6208, 4131, 6016, 4140] s0 s) (b_x1 : 0 ≤ x1 ∧ x1 ≤ 5) (b_x1000 : 0 ≤ x1000 ∧ x1000 ≤ 160) (b_x1001 : 0 ≤ x1001 ∧ x1001 ≤ 100) (b_x1002 : 0 ≤ x1002 ∧ x1002 ≤ 110) (b_x1003 : 0 ≤ x1003 ∧ x1003 ≤ 120) (b_x1004 : 0 ≤ x1004 ∧ x1004 ≤ 5) (b_x1005 : 0 ≤ x1005 ∧ x1005 ≤ 1) (b_x1006 : 0 ≤ x1006 ∧ x1006 ≤ 7) (r_1005_1 : x1005 ≤ x1 + 1) (r_1005_1000 : x1005 ≤ x1000 + 1) (r_1005_1002 : x1005 ≤ x1002 + 1) (r_1005_1003 : x1005 ≤ x1003 + 1) (r_1005_1004 : x1005 ≤ x1004 + 1) (w_0 : x1001 ≤ 100) (w_1 : x1006 ≤ 7) (w_2 : x1 = 0 → x1002 + x1003 ≤ x1000 ∧ x1000 ≤ x1001) (w_3 : x1 = 0 → AW s (1 - x1005) x1004 (x1002 + x1003)) (w_4 : x1001 = s0 256 34 ∧ x1006 = s0 256 43) (w_5 : s 283 = s0 283) (w_6 : x1 = 0 → AI (s0 283) (s0 256 34) x1005 x1004 (sk (s0 283) (s0 256 34) x1000) ∧ s 256 35 = -1) (w_7 : x1 ≠ 0 → AF (s0 283) (s0 256 34) x1 (s 256 35)) (e_x1000 : x1000 = s 256 36) (e_x1001 : x1001 = s 256 34) (e_x1002 : x1002 = s 256 47) (e_x1003 : x1003 = s 256 48) (e_x1004 : x1004 = s 256 50) (e_x1005 : x1005 = s 256 51) (e_x1006 : x1006 = s 256 43) (i_J : J s)  (hm : (2000 - x1000 - 200 * x1) < (n : Int)), xe none 200 58 [(0, .ref 256), (1, vi x1)] [] s 0 0 (fun s' v => GI s' ∧ FL [4133, 4136, 4132, 4134, 4135, 6080, 6144, 4144, 4145, 4148, 4147, 6208, 4131, 6016, 4140] s0 s' ∧ ∃ z, v = some (vi z) ∧ ((-2147483648) ≤ z ∧ z ≤ 2147483647) ∧ (AkR s0 s' z) ∧ J s') := by
  intro n
  induction n with
  | zero => intro s x1 x1000 x1001 x1002 x1003 x1004 x1005 x1006 hG f b_x1 b_x1000 b_x1001 b_x1002 b_x1003 b_x1004 b_x1005 b_x1006 r_1005_1 r_1005_1000 r_1005_1002 r_1005_1003 r_1005_1004 w_0 w_1 w_2 w_3 w_4 w_5 w_6 w_7 e_x1000 e_x1001 e_x1002 e_x1003 e_x1004 e_x1005 e_x1006 i_J  hm; exfalso; omega
  | succ n ih =>
    intro s x1 x1000 x1001 x1002 x1003 x1004 x1005 x1006 hG f b_x1 b_x1000 b_x1001 b_x1002 b_x1003 b_x1004 b_x1005 b_x1006 r_1005_1 r_1005_1000 r_1005_1002 r_1005_1003 r_1005_1004 w_0 w_1 w_2 w_3 w_4 w_5 w_6 w_7 e_x1000 e_x1001 e_x1002 e_x1003 e_x1004 e_x1005 e_x1006 i_J  hm
    refine x_A k200_58 (fun _ => rfl) ?_
    refine x_if_ne k200_59 (t := 105) rfl (by first | exact x_rb b_x1 rfl rfl | exact ⟨by omega, by omega⟩) (fun c349 => ?_) (fun c349 => ?_)
    · skip
      obtain ⟨z350, e_z350⟩ : ∃ z, z = s 256 35 := ⟨_, rfl⟩
      have g_z350 : (-2147483648) ≤ s 256 35 ∧ s 256 35 ≤ 2147483647 := hG 256 35
      refine x_A k200_105 (fun _ => rfl) ?_
      refine x_A k200_106 (fun _ => rfl) ?_
      refine x_putI k200_107 (f := 34) rfl (q := 256) (n := 62) (kd := 15) ⟨by decide, rfl⟩ rfl rfl rfl ?_
      refine x_nh (fun s351 e_s351 => ?_)
      have hG_s351 : GI s351 := by rw [e_s351]; exact hG.up (show 0 ≤ 0 ∧ 0 ≤ 160 from ⟨by decide, by decide⟩)
      have f_s351 : FL [4133, 4136, 4132, 4134, 4135, 6080, 6144, 4144, 4145, 4148, 4147, 6208, 4131, 6016, 4140] s0 s351 := by rw [e_s351]; exact f.up (show 4131 ∈ [4133, 4136, 4132, 4134, 4135, 6080, 6144, 4144, 4145, 4148, 4147, 6208, 4131, 6016, 4140] from by decide +kernel)
      have q352 : s351 256 36 = x1000 := by rw [e_s351, x_up_i (by decide)]; exact e_x1000.symm
      have q353 : s351 256 47 = x1002 := by rw [e_s351, x_up_i (by decide)]; exact e_x1002.symm
      have q354 : s351 256 48 = x1003 := by rw [e_s351, x_up_i (by decide)]; exact e_x1003.symm
      have q355 : s351 256 50 = x1004 := by rw [e_s351, x_up_i (by decide)]; exact e_x1004.symm
      have q356 : s351 256 51 = x1005 := by rw [e_s351, x_up_i (by decide)]; exact e_x1005.symm
      have q357 : s351 256 43 = x1006 := by rw [e_s351, x_up_i (by decide)]; exact e_x1006.symm
      have q358 : s351 256 35 = z350 := by rw [e_s351, x_up_i (by decide)]; exact e_z350.symm
      have q359 : s351 256 34 = 0 := by rw [e_s351]; exact x_up_same
      have J_s351 : J s351 := by rw [e_s351]; exact J.up i_J (show 4131 ∉ LJ from by decide)
      refine x_A k200_110 (fun _ => rfl) ?_
      refine x_if_le k200_111 (t := 119) rfl (by first | exact x_rb b_x1 rfl rfl | exact ⟨by omega, by omega⟩) (fun c360 => by exfalso; omega) (fun c360 => ?_)
      refine x_bipush k200_114 (by decide +kernel) ?_
      refine x_A k200_116 (fun _ => rfl) ?_
      refine x_isub k200_117 ?_
      refine x_top (fun z361 e_z361 => ?_)
      exact x_iret k200_118 rfl ⟨hG_s351, f_s351, z361, rfl, (by first | exact x_rbe e_z361 g_z361 rfl rfl | exact x_rb g_z361 rfl rfl | exact ⟨by omega, by omega⟩), (by unfold AkR; exact Or.inr (Or.inr ⟨by omega, by omega, by omega, Or.inr ⟨x1, by omega, by rw [show s351 256 35 = s 256 35 by omega]; exact w_7 (by omega), by omega, by omega⟩⟩)), J_s351⟩
    · skip
      have AK_i : AW s (1 - x1005) x1004 (x1002 + x1003) := w_3 (by omega)
      have aq := w_6 (by omega)
      obtain ⟨z362, e_z362⟩ : ∃ z, z = s 256 35 := ⟨_, rfl⟩
      have g_z362 : (-2147483648) ≤ s 256 35 ∧ s 256 35 ≤ 2147483647 := hG 256 35
      refine x_A k200_62 (fun _ => rfl) ?_
      refine x_getI k200_63 (f := 51) rfl (q := 256) (n := 62) (kd := 15) ⟨by decide, rfl⟩ (by decide) rfl ?_
      refine x_rw (e_x1005.symm) ?_
      refine x_if_ne k200_66 (t := 83) rfl (by first | exact x_rb b_x1005 rfl rfl | exact ⟨by omega, by omega⟩) (fun c363 => ?_) (fun c363 => ?_)
      · skip
        refine x_A k200_83 (fun _ => rfl) ?_
        refine x_getI k200_84 (f := 51) rfl (q := 256) (n := 62) (kd := 15) ⟨by decide, rfl⟩ (by decide) rfl ?_
        refine x_rw (e_x1005.symm) ?_
        refine x_if_eq k200_87 (t := 97) rfl (by first | exact x_rb b_x1005 rfl rfl | exact ⟨by omega, by omega⟩) (fun c364 => by exfalso; omega) (fun c364 => ?_)
        refine x_A k200_90 (fun _ => rfl) ?_
        have A0_i : AW s 0 (s 256 50) (s 256 47 + s 256 48) := AW.ca AK_i (by omega) (by omega) (by omega)
        have tf : s 283 = s0 283 := w_5
        have pq_ : AI (s 283) (s 256 34) 1 (s 256 50) (sk (s 283) (s 256 34) (s 256 36)) := by rw [tf, show s 256 34 = s0 256 34 by omega, show s 256 50 = x1004 by omega, show s 256 36 = x1000 by omega]; have q := aq.1; rw [show x1005 = 1 by omega] at q; exact q
        refine x_callV k200_91 (y := 198) (n := 0) (w0 := 0) (w1 := 0) (as := []) (rest := []) (by decide +kernel) (q := 256) (nq := 62) (kq := 15) ⟨by decide, rfl⟩ rfl rfl rfl rfl (xe_mono (E_X11_readOne_256 s hG ⟨by omega, by omega⟩ ⟨by omega, by omega⟩ ⟨by omega, by omega⟩ ⟨by omega, by omega⟩ ⟨by omega, by omega⟩ ⟨by omega, by omega⟩ ⟨by omega, by omega⟩ (by omega) (by omega) pq_ i_J A0_i) ?_)
        rintro s366 v ⟨hG_s366, t_s366, z365, rfl, g_z365, xp_z365, J_s366⟩
        have f_s366 : FL [4133, 4136, 4132, 4134, 4135, 6080, 6144, 4144, 4145, 4148, 4147, 6208, 4131, 6016, 4140] s0 s366 := f.tr t_s366 (by decide +kernel)
        have q367 : s366 256 34 = x1001 := (t_s366 256 34 (show 4131 ∉ [4133, 4136, 4132, 6080, 6144, 4144, 4145, 4148, 4134, 4135, 4147, 6208] from by decide +kernel)).trans e_x1001.symm
        have q368 : s366 256 43 = x1006 := (t_s366 256 43 (show 4140 ∉ [4133, 4136, 4132, 6080, 6144, 4144, 4145, 4148, 4134, 4135, 4147, 6208] from by decide +kernel)).trans e_x1006.symm
        obtain ⟨z369, e_z369⟩ : ∃ z, z = s366 256 36 := ⟨_, rfl⟩
        have g_z369 : (0 : Int) ≤ s366 256 36 ∧ s366 256 36 ≤ 160 := hG_s366 256 36
        obtain ⟨z370, e_z370⟩ : ∃ z, z = s366 256 47 := ⟨_, rfl⟩
        have g_z370 : (0 : Int) ≤ s366 256 47 ∧ s366 256 47 ≤ 110 := hG_s366 256 47
        obtain ⟨z371, e_z371⟩ : ∃ z, z = s366 256 48 := ⟨_, rfl⟩
        have g_z371 : (0 : Int) ≤ s366 256 48 ∧ s366 256 48 ≤ 120 := hG_s366 256 48
        obtain ⟨z372, e_z372⟩ : ∃ z, z = s366 256 50 := ⟨_, rfl⟩
        have g_z372 : (0 : Int) ≤ s366 256 50 ∧ s366 256 50 ≤ 5 := hG_s366 256 50
        obtain ⟨z373, e_z373⟩ : ∃ z, z = s366 256 51 := ⟨_, rfl⟩
        have g_z373 : (0 : Int) ≤ s366 256 51 ∧ s366 256 51 ≤ 1 := hG_s366 256 51
        obtain ⟨z374, e_z374⟩ : ∃ z, z = s366 256 35 := ⟨_, rfl⟩
        have g_z374 : (-2147483648) ≤ s366 256 35 ∧ s366 256 35 ≤ 2147483647 := hG_s366 256 35
        show xe none 200 94 [(0, .ref 256), (1, vi x1)] [vi z365] s366 0 0 _
        have rq := xp_z365.1
        rw [tf, show s 256 34 = s0 256 34 by omega] at rq
        refine x_goto k200_94 (t := 101) rfl ?_
        refine x_istore_n k200_101 (ls' := [(1, vi z365), (0, .ref 256)]) (by decide) rfl ?_
        refine x_goto k200_102 (t := 58) rfl ?_
        refine x_ls (l := [(0, .ref 256), (1, vi z365)]) (show ([0, 1] : List Nat).Nodup from by decide +kernel) ⟨rfl, rfl, trivial⟩ ?_
        exact ih s366 z365 z369 x1001 z370 z371 z372 z373 x1006 hG_s366 f_s366 (by first | exact x_rbe e_z365 g_z365 rfl rfl | exact x_rb g_z365 rfl rfl | exact ⟨by omega, by omega⟩) (by first | exact x_rbe e_z369 g_z369 rfl rfl | exact x_rb g_z369 rfl rfl | exact ⟨by omega, by omega⟩) (by first | exact x_rb b_x1001 rfl rfl | exact ⟨by omega, by omega⟩) (by first | exact x_rbe e_z370 g_z370 rfl rfl | exact x_rb g_z370 rfl rfl | exact ⟨by omega, by omega⟩) (by first | exact x_rbe e_z371 g_z371 rfl rfl | exact x_rb g_z371 rfl rfl | exact ⟨by omega, by omega⟩) (by first | exact x_rbe e_z372 g_z372 rfl rfl | exact x_rb g_z372 rfl rfl | exact ⟨by omega, by omega⟩) (by first | exact x_rbe e_z373 g_z373 rfl rfl | exact x_rb g_z373 rfl rfl | exact ⟨by omega, by omega⟩) (by first | exact x_rb b_x1006 rfl rfl | exact ⟨by omega, by omega⟩) (by omega) (by omega) (by omega) (by omega) (by omega) (by omega) (by omega) (by omega) (fun hz => AW.ca (xp_z365.2.2 (by omega)) (by omega) (by omega) (by omega)) (by omega) ((funext fun i => t_s366 283 i (show 5824 ∉ _ from by decide)).trans tf) (fun hz => by obtain ⟨r1, r2⟩ := rq.1 hz; exact ⟨by rw [show z373 = s366 256 51 by omega, show z372 = s366 256 50 by omega, show z369 = s366 256 36 by omega]; exact r1, by omega⟩) (fun hz => rq.2 hz) (e_z369.symm).symm (q367).symm (e_z370.symm).symm (e_z371.symm).symm (e_z372.symm).symm (e_z373.symm).symm (q368).symm J_s366  (by omega)
      · skip
        refine x_A k200_69 (fun _ => rfl) ?_
        refine x_getI k200_70 (f := 50) rfl (q := 256) (n := 62) (kd := 15) ⟨by decide, rfl⟩ (by decide) rfl ?_
        refine x_rw (e_x1004.symm) ?_
        refine x_if_gt k200_73 (t := 83) rfl (by first | exact x_rb b_x1004 rfl rfl | exact ⟨by omega, by omega⟩) (fun c375 => ?_) (fun c375 => ?_)
        · skip
          refine x_A k200_83 (fun _ => rfl) ?_
          refine x_getI k200_84 (f := 51) rfl (q := 256) (n := 62) (kd := 15) ⟨by decide, rfl⟩ (by decide) rfl ?_
          refine x_rw (e_x1005.symm) ?_
          refine x_if_eq k200_87 (t := 97) rfl (by first | exact x_rb b_x1005 rfl rfl | exact ⟨by omega, by omega⟩) (fun c376 => ?_) (fun c376 => by exfalso; omega)
          refine x_A k200_97 (fun _ => rfl) ?_
          have B1_i : AW s 1 (s 256 50) (s 256 47 + s 256 48) := AW.ca AK_i (by omega) (by omega) (by omega)
          have tf : s 283 = s0 283 := w_5
          have pq_ : AI (s 283) (s 256 34) 0 (s 256 50) (sk (s 283) (s 256 34) (s 256 36)) := by rw [tf, show s 256 34 = s0 256 34 by omega, show s 256 50 = x1004 by omega, show s 256 36 = x1000 by omega]; have q := aq.1; rw [show x1005 = 0 by omega] at q; exact q
          have pn_ : ¬ (s 256 50 ≤ 0 ∧ s 256 34 ≤ sk (s 283) (s 256 34) (s 256 36)) := by
            omega
          refine x_callV k200_98 (y := 199) (n := 0) (w0 := 0) (w1 := 0) (as := []) (rest := []) (by decide +kernel) (q := 256) (nq := 62) (kq := 15) ⟨by decide, rfl⟩ rfl rfl rfl rfl (xe_mono (E_X11_readBehind_256 s hG ⟨by omega, by omega⟩ ⟨by omega, by omega⟩ ⟨by omega, by omega⟩ ⟨by omega, by omega⟩ ⟨by omega, by omega⟩ ⟨by omega, by omega⟩ ⟨by omega, by omega⟩ (by omega) (by omega) pq_ (by omega) i_J B1_i) ?_)
          rintro s378 v ⟨hG_s378, t_s378, z377, rfl, g_z377, xp_z377, J_s378⟩
          have f_s378 : FL [4133, 4136, 4132, 4134, 4135, 6080, 6144, 4144, 4145, 4148, 4147, 6208, 4131, 6016, 4140] s0 s378 := f.tr t_s378 (by decide +kernel)
          have q379 : s378 256 34 = x1001 := (t_s378 256 34 (show 4131 ∉ [4133, 4136, 4132, 4134, 4135, 6080, 6144, 4144, 4145, 4148, 4147, 6208] from by decide +kernel)).trans e_x1001.symm
          have q380 : s378 256 43 = x1006 := (t_s378 256 43 (show 4140 ∉ [4133, 4136, 4132, 4134, 4135, 6080, 6144, 4144, 4145, 4148, 4147, 6208] from by decide +kernel)).trans e_x1006.symm
          obtain ⟨z381, e_z381⟩ : ∃ z, z = s378 256 36 := ⟨_, rfl⟩
          have g_z381 : (0 : Int) ≤ s378 256 36 ∧ s378 256 36 ≤ 160 := hG_s378 256 36
          obtain ⟨z382, e_z382⟩ : ∃ z, z = s378 256 47 := ⟨_, rfl⟩
          have g_z382 : (0 : Int) ≤ s378 256 47 ∧ s378 256 47 ≤ 110 := hG_s378 256 47
          obtain ⟨z383, e_z383⟩ : ∃ z, z = s378 256 48 := ⟨_, rfl⟩
          have g_z383 : (0 : Int) ≤ s378 256 48 ∧ s378 256 48 ≤ 120 := hG_s378 256 48
          obtain ⟨z384, e_z384⟩ : ∃ z, z = s378 256 50 := ⟨_, rfl⟩
          have g_z384 : (0 : Int) ≤ s378 256 50 ∧ s378 256 50 ≤ 5 := hG_s378 256 50
          obtain ⟨z385, e_z385⟩ : ∃ z, z = s378 256 51 := ⟨_, rfl⟩
          have g_z385 : (0 : Int) ≤ s378 256 51 ∧ s378 256 51 ≤ 1 := hG_s378 256 51
          obtain ⟨z386, e_z386⟩ : ∃ z, z = s378 256 35 := ⟨_, rfl⟩
          have g_z386 : (-2147483648) ≤ s378 256 35 ∧ s378 256 35 ≤ 2147483647 := hG_s378 256 35
          show xe none 200 101 [(0, .ref 256), (1, vi x1)] [vi z377] s378 0 0 _
          have rq := xp_z377.1
          rw [tf, show s 256 34 = s0 256 34 by omega] at rq
          refine x_istore_n k200_101 (ls' := [(1, vi z377), (0, .ref 256)]) (by decide) rfl ?_
          refine x_goto k200_102 (t := 58) rfl ?_
          refine x_ls (l := [(0, .ref 256), (1, vi z377)]) (show ([0, 1] : List Nat).Nodup from by decide +kernel) ⟨rfl, rfl, trivial⟩ ?_
          exact ih s378 z377 z381 x1001 z382 z383 z384 z385 x1006 hG_s378 f_s378 (by first | exact x_rbe e_z377 g_z377 rfl rfl | exact x_rb g_z377 rfl rfl | exact ⟨by omega, by omega⟩) (by first | exact x_rbe e_z381 g_z381 rfl rfl | exact x_rb g_z381 rfl rfl | exact ⟨by omega, by omega⟩) (by first | exact x_rb b_x1001 rfl rfl | exact ⟨by omega, by omega⟩) (by first | exact x_rbe e_z382 g_z382 rfl rfl | exact x_rb g_z382 rfl rfl | exact ⟨by omega, by omega⟩) (by first | exact x_rbe e_z383 g_z383 rfl rfl | exact x_rb g_z383 rfl rfl | exact ⟨by omega, by omega⟩) (by first | exact x_rbe e_z384 g_z384 rfl rfl | exact x_rb g_z384 rfl rfl | exact ⟨by omega, by omega⟩) (by first | exact x_rbe e_z385 g_z385 rfl rfl | exact x_rb g_z385 rfl rfl | exact ⟨by omega, by omega⟩) (by first | exact x_rb b_x1006 rfl rfl | exact ⟨by omega, by omega⟩) (by omega) (by omega) (by omega) (by omega) (by omega) (by omega) (by omega) (by omega) (fun hz => AW.ca (xp_z377.2.2 (by omega)) (by omega) (by omega) (by omega)) (by omega) ((funext fun i => t_s378 283 i (show 5824 ∉ _ from by decide)).trans tf) (fun hz => by obtain ⟨r1, r2⟩ := rq.1 hz; exact ⟨by rw [show z385 = s378 256 51 by omega, show z384 = s378 256 50 by omega, show z381 = s378 256 36 by omega]; exact r1, by omega⟩) (fun hz => rq.2 hz) (e_z381.symm).symm (q379).symm (e_z382.symm).symm (e_z383.symm).symm (e_z384.symm).symm (e_z385.symm).symm (q380).symm J_s378  (by omega)
        · skip
          refine x_A k200_76 (fun _ => rfl) ?_
          refine x_callV k200_77 (y := 176) (n := 0) (w0 := 0) (w1 := 0) (as := []) (rest := []) (by decide +kernel) (q := 256) (nq := 62) (kq := 15) ⟨by decide, rfl⟩ rfl rfl rfl rfl (xe_mono (E_X11_here_256 s hG (by omega)) ?_)
          rintro s388 v ⟨hG_s388, t_s388, z387, rfl, g_z387, xp_z387⟩
          have f_s388 : FL [4133, 4136, 4132, 4134, 4135, 6080, 6144, 4144, 4145, 4148, 4147, 6208, 4131, 6016, 4140] s0 s388 := f.tr t_s388 (by decide +kernel)
          have q389 : s388 256 34 = x1001 := (t_s388 256 34 (show 4131 ∉ [4133] from by decide +kernel)).trans e_x1001.symm
          have q390 : s388 256 47 = x1002 := (t_s388 256 47 (show 4144 ∉ [4133] from by decide +kernel)).trans e_x1002.symm
          have q391 : s388 256 48 = x1003 := (t_s388 256 48 (show 4145 ∉ [4133] from by decide +kernel)).trans e_x1003.symm
          have q392 : s388 256 50 = x1004 := (t_s388 256 50 (show 4147 ∉ [4133] from by decide +kernel)).trans e_x1004.symm
          have q393 : s388 256 51 = x1005 := (t_s388 256 51 (show 4148 ∉ [4133] from by decide +kernel)).trans e_x1005.symm
          have q394 : s388 256 43 = x1006 := (t_s388 256 43 (show 4140 ∉ [4133] from by decide +kernel)).trans e_x1006.symm
          have q395 : s388 256 35 = z362 := (t_s388 256 35 (show 4132 ∉ [4133] from by decide +kernel)).trans e_z362.symm
          have J_s388 : J s388 := J.fl i_J t_s388 (by decide +kernel)
          have AK_s388 : AW s388 (1 - x1005) x1004 (x1002 + x1003) := AW.fl AK_i t_s388 (by decide +kernel)
          obtain ⟨z396, e_z396⟩ : ∃ z, z = s388 256 36 := ⟨_, rfl⟩
          have g_z396 : (0 : Int) ≤ s388 256 36 ∧ s388 256 36 ≤ 160 := hG_s388 256 36
          show xe none 200 80 [(0, .ref 256), (1, vi x1)] [vi z387] s388 0 0 _
          have hh := xp_z387
          clear xp_z387
          rw [w_5, show s 256 34 = s0 256 34 by omega, show s 256 36 = x1000 by omega] at hh
          have hh1 := hh.1
          have hh2 := hh.2.1
          have hh3 := hh.2.2.1
          have hh4 := hh.2.2.2.1
          have hh5 := hh.2.2.2.2 (by omega)
          clear hh
          refine x_if_lt k200_80 (t := 105) rfl (by first | exact x_rbe e_z387 g_z387 rfl rfl | exact x_rb g_z387 rfl rfl | exact ⟨by omega, by omega⟩) (fun c397 => ?_) (fun c397 => ?_)
          · skip
            have ad : AD (s0 283) (s0 256 34) := by have q := aq.1; rw [show x1005 = 0 by omega] at q; exact q.fin (by omega) (by have h2 := hh2; have hT : (0 : Int) ≤ s0 283 (sk (s0 283) (s0 256 34) x1000).toNat ∧ s0 283 (sk (s0 283) (s0 256 34) x1000).toNat ≤ 255 := (by rw [← w_5]; exact hG 283 _); unfold ch at h2; split at h2 <;> omega)
            refine x_A k200_105 (fun _ => rfl) ?_
            refine x_A k200_106 (fun _ => rfl) ?_
            refine x_putI k200_107 (f := 34) rfl (q := 256) (n := 62) (kd := 15) ⟨by decide, rfl⟩ rfl rfl rfl ?_
            refine x_nh (fun s398 e_s398 => ?_)
            have hG_s398 : GI s398 := by rw [e_s398]; exact hG_s388.up (show 0 ≤ 0 ∧ 0 ≤ 160 from ⟨by decide, by decide⟩)
            have f_s398 : FL [4133, 4136, 4132, 4134, 4135, 6080, 6144, 4144, 4145, 4148, 4147, 6208, 4131, 6016, 4140] s0 s398 := by rw [e_s398]; exact f_s388.up (show 4131 ∈ [4133, 4136, 4132, 4134, 4135, 6080, 6144, 4144, 4145, 4148, 4147, 6208, 4131, 6016, 4140] from by decide +kernel)
            have q399 : s398 256 47 = x1002 := by rw [e_s398, x_up_i (by decide)]; exact q390
            have q400 : s398 256 48 = x1003 := by rw [e_s398, x_up_i (by decide)]; exact q391
            have q401 : s398 256 50 = x1004 := by rw [e_s398, x_up_i (by decide)]; exact q392
            have q402 : s398 256 51 = x1005 := by rw [e_s398, x_up_i (by decide)]; exact q393
            have q403 : s398 256 43 = x1006 := by rw [e_s398, x_up_i (by decide)]; exact q394
            have q404 : s398 256 35 = z362 := by rw [e_s398, x_up_i (by decide)]; exact q395
            have q405 : s398 256 36 = z396 := by rw [e_s398, x_up_i (by decide)]; exact e_z396.symm
            have q406 : s398 256 34 = 0 := by rw [e_s398]; exact x_up_same
            have J_s398 : J s398 := by rw [e_s398]; exact J.up J_s388 (show 4131 ∉ LJ from by decide)
            have AK_s398 : AW s398 (1 - x1005) x1004 (x1002 + x1003) := by rw [e_s398]; exact AW.up AK_s388 (show 4131 ∉ [6080, 4140, 4144, 4145, 6208] from by decide +kernel)
            refine x_A k200_110 (fun _ => rfl) ?_
            refine x_if_le k200_111 (t := 119) rfl (by first | exact x_rb b_x1 rfl rfl | exact ⟨by omega, by omega⟩) (fun c407 => ?_) (fun c407 => by exfalso; omega)
            refine x_A k200_119 (fun _ => rfl) ?_
            refine x_A k200_120 (fun _ => rfl) ?_
            have B_i : AW s398 1 x1004 (x1002 + x1003) := AW.ca AK_s398 (by omega) rfl rfl
            have AW1_a := AW.rf B_i
            refine x_callV k200_121 (y := 195) (n := 1) (w0 := 0) (w1 := 1) (as := [vi 0]) (rest := []) (by decide +kernel) (q := 256) (nq := 62) (kq := 15) ⟨by decide, rfl⟩ rfl rfl rfl rfl (xe_mono (C_X11_work_256 s398 hG_s398 0 ⟨by decide, by decide⟩ ⟨by omega, by omega⟩ ⟨by omega, by omega⟩ ⟨by omega, by omega⟩ (by omega) (by omega) J_s398 AW1_a) ?_)
            rintro s409 v ⟨hG_s409, t_s409, rfl, xp_z408, J_s409, AW1_s409⟩
            have f_s409 : FL [4133, 4136, 4132, 4134, 4135, 6080, 6144, 4144, 4145, 4148, 4147, 6208, 4131, 6016, 4140] s0 s409 := f_s398.tr t_s409 (by decide +kernel)
            have q410 : s409 256 50 = x1004 := (t_s409 256 50 (show 4147 ∉ [6080, 6144, 4144, 4145] from by decide +kernel)).trans q401
            have q411 : s409 256 51 = x1005 := (t_s409 256 51 (show 4148 ∉ [6080, 6144, 4144, 4145] from by decide +kernel)).trans q402
            have q412 : s409 256 43 = x1006 := (t_s409 256 43 (show 4140 ∉ [6080, 6144, 4144, 4145] from by decide +kernel)).trans q403
            have q413 : s409 256 35 = z362 := (t_s409 256 35 (show 4132 ∉ [6080, 6144, 4144, 4145] from by decide +kernel)).trans q404
            have q414 : s409 256 36 = z396 := (t_s409 256 36 (show 4133 ∉ [6080, 6144, 4144, 4145] from by decide +kernel)).trans q405
            have q415 : s409 256 34 = 0 := (t_s409 256 34 (show 4131 ∉ [6080, 6144, 4144, 4145] from by decide +kernel)).trans q406
            show xe none 200 124 [(0, .ref 256), (1, vi x1)] [] s409 0 0 _
            have B_w := AW.tr B_i AW1_s409
            obtain ⟨z416, e_z416⟩ : ∃ z, z = s409 256 47 := ⟨_, rfl⟩
            have g_z416 : (0 : Int) ≤ s409 256 47 ∧ s409 256 47 ≤ 110 := hG_s409 256 47
            obtain ⟨z417, e_z417⟩ : ∃ z, z = s409 256 48 := ⟨_, rfl⟩
            have g_z417 : (0 : Int) ≤ s409 256 48 ∧ s409 256 48 ≤ 120 := hG_s409 256 48
            refine x_A k200_124 (fun _ => rfl) ?_
            refine x_getR k200_125 (f := 44) rfl (q := 256) (n := 62) (kd := 15) ⟨by decide, rfl⟩ (q2 := 286) (by decide) rfl ?_
            refine x_A k200_128 (fun _ => rfl) ?_
            refine x_getI k200_129 (f := 43) rfl (q := 256) (n := 62) (kd := 15) ⟨by decide, rfl⟩ (by decide) rfl ?_
            refine x_rw (q412) ?_
            refine x_A k200_132 (fun _ => rfl) ?_
            refine x_getI k200_133 (f := 47) rfl (q := 256) (n := 62) (kd := 15) ⟨by decide, rfl⟩ (by decide) rfl ?_
            refine x_rw (e_z416.symm) ?_
            refine x_iast k200_136 (q := 286) (n := 8) ⟨by decide, rfl⟩ (by decide) (by first | exact x_rbl b_x1006 rfl rfl | exact ⟨by omega, by omega⟩) ?_
            refine x_nh (fun s418 e_s418 => ?_)
            have hG_s418 : GI s418 := by rw [e_s418]; exact hG_s409.up (show 0 ≤ z416 ∧ z416 ≤ 110 from (by first | exact x_rbe e_z416 g_z416 rfl rfl | exact x_rb g_z416 rfl rfl | exact ⟨by omega, by omega⟩))
            have f_s418 : FL [4133, 4136, 4132, 4134, 4135, 6080, 6144, 4144, 4145, 4148, 4147, 6208, 4131, 6016, 4140] s0 s418 := by rw [e_s418]; exact f_s409.up (show 6016 ∈ [4133, 4136, 4132, 4134, 4135, 6080, 6144, 4144, 4145, 4148, 4147, 6208, 4131, 6016, 4140] from by decide +kernel)
            have q419 : s418 256 50 = x1004 := by rw [e_s418, x_up_q (by decide)]; exact q410
            have q420 : s418 256 51 = x1005 := by rw [e_s418, x_up_q (by decide)]; exact q411
            have q421 : s418 256 43 = x1006 := by rw [e_s418, x_up_q (by decide)]; exact q412
            have q422 : s418 256 35 = z362 := by rw [e_s418, x_up_q (by decide)]; exact q413
            have q423 : s418 256 36 = z396 := by rw [e_s418, x_up_q (by decide)]; exact q414
            have q424 : s418 256 34 = 0 := by rw [e_s418, x_up_q (by decide)]; exact q415
            have q425 : s418 256 47 = z416 := by rw [e_s418, x_up_q (by decide)]; exact e_z416.symm
            have q426 : s418 256 48 = z417 := by rw [e_s418, x_up_q (by decide)]; exact e_z417.symm
            have q427 : s418 286 x1006.toNat = z416 := by rw [e_s418]; exact x_up_same
            refine x_A k200_137 (fun _ => rfl) ?_
            refine x_A k200_138 (fun _ => rfl) ?_
            refine x_getI k200_139 (f := 43) rfl (q := 256) (n := 62) (kd := 15) ⟨by decide, rfl⟩ (by decide) rfl ?_
            refine x_rw (q421) ?_
            refine x_A k200_142 (fun _ => rfl) ?_
            refine x_iadd k200_143 ?_
            refine x_top (fun z428 e_z428 => ?_)
            refine x_putI k200_144 (f := 43) rfl (q := 256) (n := 62) (kd := 15) ⟨by decide, rfl⟩ rfl rfl rfl ?_
            refine x_nh (fun s429 e_s429 => ?_)
            have hG_s429 : GI s429 := by rw [e_s429]; exact hG_s418.up (show 0 ≤ z428 ∧ z428 ≤ 8 from (by first | exact x_rbe e_z428 g_z428 rfl rfl | exact x_rb g_z428 rfl rfl | exact ⟨by omega, by omega⟩))
            have f_s429 : FL [4133, 4136, 4132, 4134, 4135, 6080, 6144, 4144, 4145, 4148, 4147, 6208, 4131, 6016, 4140] s0 s429 := by rw [e_s429]; exact f_s418.up (show 4140 ∈ [4133, 4136, 4132, 4134, 4135, 6080, 6144, 4144, 4145, 4148, 4147, 6208, 4131, 6016, 4140] from by decide +kernel)
            have q430 : s429 256 50 = x1004 := by rw [e_s429, x_up_i (by decide)]; exact q419
            have q431 : s429 256 51 = x1005 := by rw [e_s429, x_up_i (by decide)]; exact q420
            have q432 : s429 256 35 = z362 := by rw [e_s429, x_up_i (by decide)]; exact q422
            have q433 : s429 256 36 = z396 := by rw [e_s429, x_up_i (by decide)]; exact q423
            have q434 : s429 256 34 = 0 := by rw [e_s429, x_up_i (by decide)]; exact q424
            have q435 : s429 256 47 = z416 := by rw [e_s429, x_up_i (by decide)]; exact q425
            have q436 : s429 256 48 = z417 := by rw [e_s429, x_up_i (by decide)]; exact q426
            have q437 : s429 256 43 = z428 := by rw [e_s429]; exact x_up_same
            have q438 : s429 286 x1006.toNat = z416 := by rw [e_s429, x_up_q (by first | decide | omega)]; exact q427
            have J_a : J s429 := by rw [e_s429, e_s418]; exact J.ask J_s409 (show x1006 = s409 256 43 by omega) (by omega) (by omega) (by rw [show z416 = s409 256 47 by omega]; exact B_w.1)
            refine x_A k200_147 (fun _ => rfl) ?_
            refine x_getI k200_148 (f := 43) rfl (q := 256) (n := 62) (kd := 15) ⟨by decide, rfl⟩ (by decide) rfl ?_
            refine x_rw (q437) ?_
            refine x_A k200_151 (fun _ => rfl) ?_
            refine x_isub k200_152 ?_
            refine x_top (fun z439 e_z439 => ?_)
            exact x_iret k200_153 rfl ⟨hG_s429, f_s429, z439, rfl, (by first | exact x_rbe e_z439 g_z439 rfl rfl | exact x_rb g_z439 rfl rfl | exact ⟨by omega, by omega⟩), (by unfold AkR; exact Or.inr (Or.inr ⟨by omega, by omega, by omega, Or.inl ⟨ad, by omega, by omega, by omega⟩⟩)), J_a⟩
          · skip
            refine x_A k200_83 (fun _ => rfl) ?_
            refine x_getI k200_84 (f := 51) rfl (q := 256) (n := 62) (kd := 15) ⟨by decide, rfl⟩ (by decide) rfl ?_
            refine x_rw (q393) ?_
            refine x_if_eq k200_87 (t := 97) rfl (by first | exact x_rb b_x1005 rfl rfl | exact ⟨by omega, by omega⟩) (fun c440 => ?_) (fun c440 => by exfalso; omega)
            refine x_A k200_97 (fun _ => rfl) ?_
            have B1_i : AW s388 1 (s388 256 50) (s388 256 47 + s388 256 48) := AW.ca AK_s388 (by omega) (by omega) (by omega)
            have tf : s388 283 = s0 283 := (funext fun i => t_s388 283 i (show 5824 ∉ _ from by decide)).trans w_5
            have pq_ : AI (s388 283) (s388 256 34) 0 (s388 256 50) (sk (s388 283) (s388 256 34) (s388 256 36)) := by rw [tf, show s388 256 34 = s0 256 34 by omega, show s388 256 50 = x1004 by omega, show s388 256 36 = sk (s0 283) (s0 256 34) x1000 by omega, sk_sk]; have q := aq.1; rw [show x1005 = 0 by omega] at q; exact q
            have pn_ : ¬ (s388 256 50 ≤ 0 ∧ s388 256 34 ≤ sk (s388 283) (s388 256 34) (s388 256 36)) := by
              rw [tf, show s388 256 34 = s0 256 34 by omega, show s388 256 36 = sk (s0 283) (s0 256 34) x1000 by omega, sk_sk]
              intro q
              have h2 := hh2
              unfold ch at h2
              rw [if_neg (by omega)] at h2
              omega
            refine x_callV k200_98 (y := 199) (n := 0) (w0 := 0) (w1 := 0) (as := []) (rest := []) (by decide +kernel) (q := 256) (nq := 62) (kq := 15) ⟨by decide, rfl⟩ rfl rfl rfl rfl (xe_mono (E_X11_readBehind_256 s388 hG_s388 ⟨by omega, by omega⟩ ⟨by omega, by omega⟩ ⟨by omega, by omega⟩ ⟨by omega, by omega⟩ ⟨by omega, by omega⟩ ⟨by omega, by omega⟩ ⟨by omega, by omega⟩ (by omega) (by omega) pq_ (by omega) J_s388 B1_i) ?_)
            rintro s442 v ⟨hG_s442, t_s442, z441, rfl, g_z441, xp_z441, J_s442⟩
            have f_s442 : FL [4133, 4136, 4132, 4134, 4135, 6080, 6144, 4144, 4145, 4148, 4147, 6208, 4131, 6016, 4140] s0 s442 := f_s388.tr t_s442 (by decide +kernel)
            have q443 : s442 256 34 = x1001 := (t_s442 256 34 (show 4131 ∉ [4133, 4136, 4132, 4134, 4135, 6080, 6144, 4144, 4145, 4148, 4147, 6208] from by decide +kernel)).trans q389
            have q444 : s442 256 43 = x1006 := (t_s442 256 43 (show 4140 ∉ [4133, 4136, 4132, 4134, 4135, 6080, 6144, 4144, 4145, 4148, 4147, 6208] from by decide +kernel)).trans q394
            obtain ⟨z445, e_z445⟩ : ∃ z, z = s442 256 36 := ⟨_, rfl⟩
            have g_z445 : (0 : Int) ≤ s442 256 36 ∧ s442 256 36 ≤ 160 := hG_s442 256 36
            obtain ⟨z446, e_z446⟩ : ∃ z, z = s442 256 47 := ⟨_, rfl⟩
            have g_z446 : (0 : Int) ≤ s442 256 47 ∧ s442 256 47 ≤ 110 := hG_s442 256 47
            obtain ⟨z447, e_z447⟩ : ∃ z, z = s442 256 48 := ⟨_, rfl⟩
            have g_z447 : (0 : Int) ≤ s442 256 48 ∧ s442 256 48 ≤ 120 := hG_s442 256 48
            obtain ⟨z448, e_z448⟩ : ∃ z, z = s442 256 50 := ⟨_, rfl⟩
            have g_z448 : (0 : Int) ≤ s442 256 50 ∧ s442 256 50 ≤ 5 := hG_s442 256 50
            obtain ⟨z449, e_z449⟩ : ∃ z, z = s442 256 51 := ⟨_, rfl⟩
            have g_z449 : (0 : Int) ≤ s442 256 51 ∧ s442 256 51 ≤ 1 := hG_s442 256 51
            obtain ⟨z450, e_z450⟩ : ∃ z, z = s442 256 35 := ⟨_, rfl⟩
            have g_z450 : (-2147483648) ≤ s442 256 35 ∧ s442 256 35 ≤ 2147483647 := hG_s442 256 35
            show xe none 200 101 [(0, .ref 256), (1, vi x1)] [vi z441] s442 0 0 _
            have rq := xp_z441.1
            rw [tf, show s388 256 34 = s0 256 34 by omega] at rq
            refine x_istore_n k200_101 (ls' := [(1, vi z441), (0, .ref 256)]) (by decide) rfl ?_
            refine x_goto k200_102 (t := 58) rfl ?_
            refine x_ls (l := [(0, .ref 256), (1, vi z441)]) (show ([0, 1] : List Nat).Nodup from by decide +kernel) ⟨rfl, rfl, trivial⟩ ?_
            exact ih s442 z441 z445 x1001 z446 z447 z448 z449 x1006 hG_s442 f_s442 (by first | exact x_rbe e_z441 g_z441 rfl rfl | exact x_rb g_z441 rfl rfl | exact ⟨by omega, by omega⟩) (by first | exact x_rbe e_z445 g_z445 rfl rfl | exact x_rb g_z445 rfl rfl | exact ⟨by omega, by omega⟩) (by first | exact x_rb b_x1001 rfl rfl | exact ⟨by omega, by omega⟩) (by first | exact x_rbe e_z446 g_z446 rfl rfl | exact x_rb g_z446 rfl rfl | exact ⟨by omega, by omega⟩) (by first | exact x_rbe e_z447 g_z447 rfl rfl | exact x_rb g_z447 rfl rfl | exact ⟨by omega, by omega⟩) (by first | exact x_rbe e_z448 g_z448 rfl rfl | exact x_rb g_z448 rfl rfl | exact ⟨by omega, by omega⟩) (by first | exact x_rbe e_z449 g_z449 rfl rfl | exact x_rb g_z449 rfl rfl | exact ⟨by omega, by omega⟩) (by first | exact x_rb b_x1006 rfl rfl | exact ⟨by omega, by omega⟩) (by omega) (by omega) (by omega) (by omega) (by omega) (by omega) (by omega) (by omega) (fun hz => AW.ca (xp_z441.2.2 (by omega)) (by omega) (by omega) (by omega)) (by omega) ((funext fun i => t_s442 283 i (show 5824 ∉ _ from by decide)).trans tf) (fun hz => by obtain ⟨r1, r2⟩ := rq.1 hz; exact ⟨by rw [show z449 = s442 256 51 by omega, show z448 = s442 256 50 by omega, show z445 = s442 256 36 by omega]; exact r1, by omega⟩) (fun hz => rq.2 hz) (e_z445.symm).symm (q443).symm (e_z446.symm).symm (e_z447.symm).symm (e_z448.symm).symm (e_z449.symm).symm (q444).symm J_s442  (by omega)
set_option maxHeartbeats 8000000 in
theorem E_X11_ask_256 (s0 : xS) (hG0 : GI s0) (p_256_47 : 0 ≤ s0 256 47 ∧ s0 256 47 ≤ 110) (p_256_48 : 0 ≤ s0 256 48 ∧ s0 256 48 ≤ 120) (p_256_36 : 0 ≤ s0 256 36 ∧ s0 256 36 ≤ 160) (p_256_34 : 0 ≤ s0 256 34 ∧ s0 256 34 ≤ 160) (p_256_43 : 0 ≤ s0 256 43 ∧ s0 256 43 ≤ 8) (p_256_50 : 0 ≤ s0 256 50 ∧ s0 256 50 ≤ 5) (p_256_51 : 0 ≤ s0 256 51 ∧ s0 256 51 ≤ 1) (i0_J : J s0) : xe none 200 0 (lv_args 0 [.ref 256]) [] s0 0 0 (fun s' v => GI s' ∧ FL [4133, 4136, 4132, 4134, 4135, 6080, 6144, 4144, 4145, 4148, 4147, 6208, 4131, 6016, 4140] s0 s' ∧ ∃ z, v = some (vi z) ∧ ((-2147483648) ≤ z ∧ z ≤ 2147483647) ∧ (AkR s0 s' z) ∧ J s') := by
  have f0 : FL [4133, 4136, 4132, 4134, 4135, 6080, 6144, 4144, 4145, 4148, 4147, 6208, 4131, 6016, 4140] s0 s0 := FL.rf
  show xe none 200 0 [(0, .ref 256)] [] s0 0 0 _
  obtain ⟨z451, e_z451⟩ : ∃ z, z = s0 256 47 := ⟨_, rfl⟩
  have g_z451 : (0 : Int) ≤ s0 256 47 ∧ s0 256 47 ≤ 110 := hG0 256 47
  obtain ⟨z452, e_z452⟩ : ∃ z, z = s0 256 48 := ⟨_, rfl⟩
  have g_z452 : (0 : Int) ≤ s0 256 48 ∧ s0 256 48 ≤ 120 := hG0 256 48
  obtain ⟨z453, e_z453⟩ : ∃ z, z = s0 256 36 := ⟨_, rfl⟩
  have g_z453 : (0 : Int) ≤ s0 256 36 ∧ s0 256 36 ≤ 160 := hG0 256 36
  obtain ⟨z454, e_z454⟩ : ∃ z, z = s0 256 34 := ⟨_, rfl⟩
  have g_z454 : (0 : Int) ≤ s0 256 34 ∧ s0 256 34 ≤ 160 := hG0 256 34
  obtain ⟨z455, e_z455⟩ : ∃ z, z = s0 256 43 := ⟨_, rfl⟩
  have g_z455 : (0 : Int) ≤ s0 256 43 ∧ s0 256 43 ≤ 8 := hG0 256 43
  obtain ⟨z456, e_z456⟩ : ∃ z, z = s0 256 50 := ⟨_, rfl⟩
  have g_z456 : (0 : Int) ≤ s0 256 50 ∧ s0 256 50 ≤ 5 := hG0 256 50
  obtain ⟨z457, e_z457⟩ : ∃ z, z = s0 256 51 := ⟨_, rfl⟩
  have g_z457 : (0 : Int) ≤ s0 256 51 ∧ s0 256 51 ≤ 1 := hG0 256 51
  refine x_A k200_0 (fun _ => rfl) ?_
  refine x_getI k200_1 (f := 34) rfl (q := 256) (n := 62) (kd := 15) ⟨by decide, rfl⟩ (by decide) rfl ?_
  refine x_rw (e_z454.symm) ?_
  refine x_bipush k200_4 (by decide +kernel) ?_
  refine x_ic_le k200_6 (t := 13) rfl (by first | exact x_rbe e_z454 g_z454 rfl rfl | exact x_rb g_z454 rfl rfl | exact ⟨by omega, by omega⟩) ⟨by decide, by decide⟩ (fun c458 => ?_) (fun c458 => ?_)
  · skip
    refine x_A k200_13 (fun _ => rfl) ?_
    refine x_getI k200_14 (f := 43) rfl (q := 256) (n := 62) (kd := 15) ⟨by decide, rfl⟩ (by decide) rfl ?_
    refine x_rw (e_z455.symm) ?_
    refine x_bipush k200_17 (by decide +kernel) ?_
    refine x_ic_ne k200_19 (t := 26) rfl (by first | exact x_rbe e_z455 g_z455 rfl rfl | exact x_rb g_z455 rfl rfl | exact ⟨by omega, by omega⟩) ⟨by decide, by decide⟩ (fun c459 => ?_) (fun c459 => ?_)
    · skip
      refine x_A k200_26 (fun _ => rfl) ?_
      refine x_A k200_27 (fun _ => rfl) ?_
      refine x_putI k200_28 (f := 35) rfl (q := 256) (n := 62) (kd := 15) ⟨by decide, rfl⟩ rfl rfl rfl ?_
      refine x_nh (fun s460 e_s460 => ?_)
      have hG_s460 : GI s460 := by rw [e_s460]; exact hG0.up (show (-2147483648) ≤ (-1) ∧ (-1) ≤ 2147483647 from ⟨by decide, by decide⟩)
      have f_s460 : FL [4133, 4136, 4132, 4134, 4135, 6080, 6144, 4144, 4145, 4148, 4147, 6208, 4131, 6016, 4140] s0 s460 := by rw [e_s460]; exact f0.up (show 4132 ∈ [4133, 4136, 4132, 4134, 4135, 6080, 6144, 4144, 4145, 4148, 4147, 6208, 4131, 6016, 4140] from by decide +kernel)
      have q461 : s460 256 47 = z451 := by rw [e_s460, x_up_i (by decide)]; exact e_z451.symm
      have q462 : s460 256 48 = z452 := by rw [e_s460, x_up_i (by decide)]; exact e_z452.symm
      have q463 : s460 256 36 = z453 := by rw [e_s460, x_up_i (by decide)]; exact e_z453.symm
      have q464 : s460 256 34 = z454 := by rw [e_s460, x_up_i (by decide)]; exact e_z454.symm
      have q465 : s460 256 43 = z455 := by rw [e_s460, x_up_i (by decide)]; exact e_z455.symm
      have q466 : s460 256 50 = z456 := by rw [e_s460, x_up_i (by decide)]; exact e_z456.symm
      have q467 : s460 256 51 = z457 := by rw [e_s460, x_up_i (by decide)]; exact e_z457.symm
      have q468 : s460 256 35 = (-1) := by rw [e_s460]; exact x_up_same
      have J_s460 : J s460 := by rw [e_s460]; exact J.up i0_J (show 4132 ∉ LJ from by decide)
      refine x_A k200_31 (fun _ => rfl) ?_
      refine x_A k200_32 (fun _ => rfl) ?_
      refine x_putI k200_33 (f := 36) rfl (q := 256) (n := 62) (kd := 15) ⟨by decide, rfl⟩ rfl rfl rfl ?_
      refine x_nh (fun s469 e_s469 => ?_)
      have hG_s469 : GI s469 := by rw [e_s469]; exact hG_s460.up (show 0 ≤ 0 ∧ 0 ≤ 160 from ⟨by decide, by decide⟩)
      have f_s469 : FL [4133, 4136, 4132, 4134, 4135, 6080, 6144, 4144, 4145, 4148, 4147, 6208, 4131, 6016, 4140] s0 s469 := by rw [e_s469]; exact f_s460.up (show 4133 ∈ [4133, 4136, 4132, 4134, 4135, 6080, 6144, 4144, 4145, 4148, 4147, 6208, 4131, 6016, 4140] from by decide +kernel)
      have q470 : s469 256 47 = z451 := by rw [e_s469, x_up_i (by decide)]; exact q461
      have q471 : s469 256 48 = z452 := by rw [e_s469, x_up_i (by decide)]; exact q462
      have q472 : s469 256 34 = z454 := by rw [e_s469, x_up_i (by decide)]; exact q464
      have q473 : s469 256 43 = z455 := by rw [e_s469, x_up_i (by decide)]; exact q465
      have q474 : s469 256 50 = z456 := by rw [e_s469, x_up_i (by decide)]; exact q466
      have q475 : s469 256 51 = z457 := by rw [e_s469, x_up_i (by decide)]; exact q467
      have q476 : s469 256 35 = (-1) := by rw [e_s469, x_up_i (by decide)]; exact q468
      have q477 : s469 256 36 = 0 := by rw [e_s469]; exact x_up_same
      have J_s469 : J s469 := by rw [e_s469]; exact J.up J_s460 (show 4133 ∉ LJ from by decide)
      refine x_A k200_36 (fun _ => rfl) ?_
      refine x_A k200_37 (fun _ => rfl) ?_
      refine x_putI k200_38 (f := 47) rfl (q := 256) (n := 62) (kd := 15) ⟨by decide, rfl⟩ rfl rfl rfl ?_
      refine x_nh (fun s478 e_s478 => ?_)
      have hG_s478 : GI s478 := by rw [e_s478]; exact hG_s469.up (show 0 ≤ 0 ∧ 0 ≤ 110 from ⟨by decide, by decide⟩)
      have f_s478 : FL [4133, 4136, 4132, 4134, 4135, 6080, 6144, 4144, 4145, 4148, 4147, 6208, 4131, 6016, 4140] s0 s478 := by rw [e_s478]; exact f_s469.up (show 4144 ∈ [4133, 4136, 4132, 4134, 4135, 6080, 6144, 4144, 4145, 4148, 4147, 6208, 4131, 6016, 4140] from by decide +kernel)
      have q479 : s478 256 48 = z452 := by rw [e_s478, x_up_i (by decide)]; exact q471
      have q480 : s478 256 34 = z454 := by rw [e_s478, x_up_i (by decide)]; exact q472
      have q481 : s478 256 43 = z455 := by rw [e_s478, x_up_i (by decide)]; exact q473
      have q482 : s478 256 50 = z456 := by rw [e_s478, x_up_i (by decide)]; exact q474
      have q483 : s478 256 51 = z457 := by rw [e_s478, x_up_i (by decide)]; exact q475
      have q484 : s478 256 35 = (-1) := by rw [e_s478, x_up_i (by decide)]; exact q476
      have q485 : s478 256 36 = 0 := by rw [e_s478, x_up_i (by decide)]; exact q477
      have q486 : s478 256 47 = 0 := by rw [e_s478]; exact x_up_same
      have J_s478 : J s478 := by rw [e_s478]; exact J.up J_s469 (show 4144 ∉ LJ from by decide)
      refine x_A k200_41 (fun _ => rfl) ?_
      refine x_A k200_42 (fun _ => rfl) ?_
      refine x_putI k200_43 (f := 48) rfl (q := 256) (n := 62) (kd := 15) ⟨by decide, rfl⟩ rfl rfl rfl ?_
      refine x_nh (fun s487 e_s487 => ?_)
      have hG_s487 : GI s487 := by rw [e_s487]; exact hG_s478.up (show 0 ≤ 0 ∧ 0 ≤ 120 from ⟨by decide, by decide⟩)
      have f_s487 : FL [4133, 4136, 4132, 4134, 4135, 6080, 6144, 4144, 4145, 4148, 4147, 6208, 4131, 6016, 4140] s0 s487 := by rw [e_s487]; exact f_s478.up (show 4145 ∈ [4133, 4136, 4132, 4134, 4135, 6080, 6144, 4144, 4145, 4148, 4147, 6208, 4131, 6016, 4140] from by decide +kernel)
      have q488 : s487 256 34 = z454 := by rw [e_s487, x_up_i (by decide)]; exact q480
      have q489 : s487 256 43 = z455 := by rw [e_s487, x_up_i (by decide)]; exact q481
      have q490 : s487 256 50 = z456 := by rw [e_s487, x_up_i (by decide)]; exact q482
      have q491 : s487 256 51 = z457 := by rw [e_s487, x_up_i (by decide)]; exact q483
      have q492 : s487 256 35 = (-1) := by rw [e_s487, x_up_i (by decide)]; exact q484
      have q493 : s487 256 36 = 0 := by rw [e_s487, x_up_i (by decide)]; exact q485
      have q494 : s487 256 47 = 0 := by rw [e_s487, x_up_i (by decide)]; exact q486
      have q495 : s487 256 48 = 0 := by rw [e_s487]; exact x_up_same
      have J_s487 : J s487 := by rw [e_s487]; exact J.up J_s478 (show 4145 ∉ LJ from by decide)
      refine x_A k200_46 (fun _ => rfl) ?_
      refine x_A k200_47 (fun _ => rfl) ?_
      refine x_putI k200_48 (f := 50) rfl (q := 256) (n := 62) (kd := 15) ⟨by decide, rfl⟩ rfl rfl rfl ?_
      refine x_nh (fun s496 e_s496 => ?_)
      have hG_s496 : GI s496 := by rw [e_s496]; exact hG_s487.up (show 0 ≤ 0 ∧ 0 ≤ 5 from ⟨by decide, by decide⟩)
      have f_s496 : FL [4133, 4136, 4132, 4134, 4135, 6080, 6144, 4144, 4145, 4148, 4147, 6208, 4131, 6016, 4140] s0 s496 := by rw [e_s496]; exact f_s487.up (show 4147 ∈ [4133, 4136, 4132, 4134, 4135, 6080, 6144, 4144, 4145, 4148, 4147, 6208, 4131, 6016, 4140] from by decide +kernel)
      have q497 : s496 256 34 = z454 := by rw [e_s496, x_up_i (by decide)]; exact q488
      have q498 : s496 256 43 = z455 := by rw [e_s496, x_up_i (by decide)]; exact q489
      have q499 : s496 256 51 = z457 := by rw [e_s496, x_up_i (by decide)]; exact q491
      have q500 : s496 256 35 = (-1) := by rw [e_s496, x_up_i (by decide)]; exact q492
      have q501 : s496 256 36 = 0 := by rw [e_s496, x_up_i (by decide)]; exact q493
      have q502 : s496 256 47 = 0 := by rw [e_s496, x_up_i (by decide)]; exact q494
      have q503 : s496 256 48 = 0 := by rw [e_s496, x_up_i (by decide)]; exact q495
      have q504 : s496 256 50 = 0 := by rw [e_s496]; exact x_up_same
      have J_s496 : J s496 := by rw [e_s496]; exact J.up J_s487 (show 4147 ∉ LJ from by decide)
      refine x_A k200_51 (fun _ => rfl) ?_
      refine x_A k200_52 (fun _ => rfl) ?_
      refine x_putZ k200_53 (f := 51) rfl (q := 256) (n := 62) (kd := 15) ⟨by decide, rfl⟩ rfl rfl rfl ⟨by omega, by omega⟩ ?_
      refine x_nh (fun s505 e_s505 => ?_)
      have hG_s505 : GI s505 := by rw [e_s505]; exact hG_s496.up (show 0 ≤ 1 ∧ 1 ≤ 1 from ⟨by decide, by decide⟩)
      have f_s505 : FL [4133, 4136, 4132, 4134, 4135, 6080, 6144, 4144, 4145, 4148, 4147, 6208, 4131, 6016, 4140] s0 s505 := by rw [e_s505]; exact f_s496.up (show 4148 ∈ [4133, 4136, 4132, 4134, 4135, 6080, 6144, 4144, 4145, 4148, 4147, 6208, 4131, 6016, 4140] from by decide +kernel)
      have q506 : s505 256 34 = z454 := by rw [e_s505, x_up_i (by decide)]; exact q497
      have q507 : s505 256 43 = z455 := by rw [e_s505, x_up_i (by decide)]; exact q498
      have q508 : s505 256 35 = (-1) := by rw [e_s505, x_up_i (by decide)]; exact q500
      have q509 : s505 256 36 = 0 := by rw [e_s505, x_up_i (by decide)]; exact q501
      have q510 : s505 256 47 = 0 := by rw [e_s505, x_up_i (by decide)]; exact q502
      have q511 : s505 256 48 = 0 := by rw [e_s505, x_up_i (by decide)]; exact q503
      have q512 : s505 256 50 = 0 := by rw [e_s505, x_up_i (by decide)]; exact q504
      have q513 : s505 256 51 = 1 := by rw [e_s505]; exact x_up_same
      have J_s505 : J s505 := by rw [e_s505]; exact J.up J_s496 (show 4148 ∉ LJ from by decide)
      refine x_A k200_56 (fun _ => rfl) ?_
      refine x_istore_n k200_57 (ls' := [(1, vi 0), (0, .ref 256)]) (by decide) rfl ?_
      refine x_ls (l := [(0, .ref 256), (1, vi 0)]) (show ([0, 1] : List Nat).Nodup from by decide +kernel) ⟨rfl, rfl, trivial⟩ ?_
      exact L_E_X11_ask_256_58 s0   (((2000 - 0 - 200 * 0) + 1 : Int)).toNat s505 0 0 z454 0 0 0 1 z455 hG_s505 f_s505 ⟨by decide, by decide⟩ ⟨by decide, by decide⟩ (by first | exact x_rbe e_z454 g_z454 rfl rfl | exact x_rb g_z454 rfl rfl | exact ⟨by omega, by omega⟩) ⟨by decide, by decide⟩ ⟨by decide, by decide⟩ ⟨by decide, by decide⟩ ⟨by decide, by decide⟩ (by first | exact x_rbe e_z455 g_z455 rfl rfl | exact x_rb g_z455 rfl rfl | exact ⟨by omega, by omega⟩) (by omega) (by omega) (by omega) (by omega) (by omega) (by omega) (by omega) (by omega) (fun _ => AW.ca (AW_0 (by omega) (by omega)) (by omega) (by omega) (by omega)) (by omega) (funext fun i => by rw [e_s505, x_up_q (by decide), e_s496, x_up_q (by decide), e_s487, x_up_q (by decide), e_s478, x_up_q (by decide), e_s469, x_up_q (by decide), e_s460, x_up_q (by decide)]) (fun _ => ⟨AI_0, by omega⟩) (fun hz => by exfalso; omega) (q509).symm (q506).symm (q510).symm (q511).symm (q512).symm (q513).symm (q507).symm J_s505  (by omega)
    · skip
      refine x_sipush k200_22 (by decide +kernel) ?_
      obtain ⟨z514, e_z514⟩ : ∃ z, z = s0 256 35 := ⟨_, rfl⟩
      have g_z514 : (-2147483648) ≤ s0 256 35 ∧ s0 256 35 ≤ 2147483647 := hG0 256 35
      exact x_iret k200_25 rfl ⟨hG0, f0, (-1004), rfl, ⟨by decide, by decide⟩, (by unfold AkR; exact Or.inr (Or.inl ⟨by omega, by omega, rfl, rfl⟩)), i0_J⟩
  · skip
    refine x_sipush k200_9 (by decide +kernel) ?_
    obtain ⟨z515, e_z515⟩ : ∃ z, z = s0 256 35 := ⟨_, rfl⟩
    have g_z515 : (-2147483648) ≤ s0 256 35 ∧ s0 256 35 ≤ 2147483647 := hG0 256 35
    exact x_iret k200_12 rfl ⟨hG0, f0, (-1003), rfl, ⟨by decide, by decide⟩, (by unfold AkR; exact Or.inl ⟨by omega, rfl, rfl⟩), i0_J⟩
set_option maxHeartbeats 8000000 in
theorem E_X6_add_177 (s0 : xS) (hG0 : GI s0) (a : Int) (b_a : 0 ≤ a ∧ a ≤ 255) (pa : s0 177 1 ≤ 159) : xe none 47 0 (lv_args 0 [.ref 177, vi a]) [] s0 0 0 (fun s' v => GI s' ∧ FL [1218, 1280] s0 s' ∧ v = none ∧ (s' 177 1 = s0 177 1 + 1 ∧ ∀ j : Nat, s' 178 j = if j = (s0 177 1).toNat then a else s0 178 j)) := by
  have f0 : FL [1218, 1280] s0 s0 := FL.rf
  show xe none 47 0 [(0, .ref 177), (1, vi a)] [] s0 0 0 _
  refine x_A k47_0 (fun _ => rfl) ?_
  refine x_getI k47_1 (f := 1) rfl (q := 177) (n := 7) (kd := 7) ⟨by decide, rfl⟩ (by decide) rfl ?_
  refine x_top (fun z1 e_z1 => ?_)
  have g_z1 : (0 : Int) ≤ s0 177 1 ∧ s0 177 1 ≤ 160 := hG0 177 1
  refine x_sipush k47_4 (by decide +kernel) ?_
  refine x_ic_lt k47_7 (t := 11) rfl (by first | exact x_rbe e_z1 g_z1 rfl rfl | exact x_rb g_z1 rfl rfl | exact ⟨by omega, by omega⟩) ⟨by decide, by decide⟩ (fun c2 => ?_) (fun c2 => ?_)
  · skip
    refine x_A k47_11 (fun _ => rfl) ?_
    refine x_getR k47_12 (f := 0) rfl (q := 177) (n := 7) (kd := 7) ⟨by decide, rfl⟩ (q2 := 178) (by decide) rfl ?_
    refine x_A k47_15 (fun _ => rfl) ?_
    refine x_getI k47_16 (f := 1) rfl (q := 177) (n := 7) (kd := 7) ⟨by decide, rfl⟩ (by decide) rfl ?_
    refine x_rw (e_z1.symm) ?_
    refine x_A k47_19 (fun _ => rfl) ?_
    refine x_iast k47_20 (q := 178) (n := 160) ⟨by decide, rfl⟩ (by decide) (by first | exact x_rbel e_z1 g_z1 rfl rfl | exact x_rbl g_z1 rfl rfl | exact ⟨by omega, by omega⟩) ?_
    refine x_nh (fun s3 e_s3 => ?_)
    have hG_s3 : GI s3 := by rw [e_s3]; exact hG0.up (show 0 ≤ a ∧ a ≤ 255 from (by first | exact x_rb b_a rfl rfl | exact ⟨by omega, by omega⟩))
    have f_s3 : FL [1218, 1280] s0 s3 := by rw [e_s3]; exact f0.up (show 1280 ∈ [1218, 1280] from by decide +kernel)
    have q4 : s3 177 1 = z1 := by rw [e_s3, x_up_q (by decide)]; exact e_z1.symm
    have q5 : s3 178 z1.toNat = a := by rw [e_s3]; exact x_up_same
    refine x_A k47_21 (fun _ => rfl) ?_
    refine x_A k47_22 (fun _ => rfl) ?_
    refine x_getI k47_23 (f := 1) rfl (q := 177) (n := 7) (kd := 7) ⟨by decide, rfl⟩ (by decide) rfl ?_
    refine x_rw (q4) ?_
    refine x_A k47_26 (fun _ => rfl) ?_
    refine x_iadd k47_27 ?_
    refine x_top (fun z6 e_z6 => ?_)
    refine x_putI k47_28 (f := 1) rfl (q := 177) (n := 7) (kd := 7) ⟨by decide, rfl⟩ rfl rfl rfl ?_
    refine x_nh (fun s7 e_s7 => ?_)
    have hG_s7 : GI s7 := by rw [e_s7]; exact hG_s3.up (show 0 ≤ z6 ∧ z6 ≤ 160 from (by first | exact x_rbe e_z6 g_z6 rfl rfl | exact x_rb g_z6 rfl rfl | exact ⟨by omega, by omega⟩))
    have f_s7 : FL [1218, 1280] s0 s7 := by rw [e_s7]; exact f_s3.up (show 1218 ∈ [1218, 1280] from by decide +kernel)
    have q8 : s7 177 1 = z6 := by rw [e_s7]; exact x_up_same
    have q9 : s7 178 z1.toNat = a := by rw [e_s7, x_up_q (by first | decide | omega)]; exact q5
    exact x_vret k47_31 rfl ⟨hG_s7, f_s7, rfl, ⟨by omega, fun j => by rw [e_s7, x_up_q (by decide), e_s3, x_up_at, show z1 = s0 177 1 by omega]⟩⟩
  · skip
    exact x_vret k47_10 rfl ⟨hG0, f0, rfl, (by exfalso; omega)⟩
set_option maxHeartbeats 8000000 in
theorem L_E_X10_feed_0_38 (s0 : xS) (a : Int) (b_a : (-2147483648) ≤ a ∧ a ≤ 2147483647) (b : Int) (b_b : in64 b)  : ∀ (n : Nat) (s : xS) (x1 : Int) (x2 : Int) (x4 : Int) (x1000 : Int) (hG : GI s) (f : FL [1218, 1280] s0 s) (b_x1 : 1 ≤ x1 ∧ x1 ≤ 8) (b_x2 : in64 x2) (b_x4 : (-1) ≤ x4 ∧ x4 ≤ 7) (b_x1000 : 0 ≤ x1000 ∧ x1000 ≤ 160) (r_4_1 : x4 ≤ x1 + 0) (w_0 : x1 = a ∧ 1 ≤ a ∧ a ≤ 8 ∧ -1 ≤ x4 ∧ x4 ≤ a - 1) (w_1 : x1000 = s0 177 1 + (a - 1 - x4)) (w_2 : 0 ≤ s0 177 1 ∧ s0 177 1 + a ≤ 160) (w_3 : ∀ j : Nat, s 178 j = if s0 177 1 ≤ (j : Int) ∧ (j : Int) < s0 177 1 + (a - 1 - x4) then byt b (a - 1 - ((j : Int) - s0 177 1)) else s0 178 j) (w_4 : x2 = b) (e_x1000 : x1000 = s 177 1)  (hm : (x4 - (-1)) < (n : Int)), xe none 104 38 [(0, .ref 0), (1, vi x1), (2, vj x2), (4, vi x4)] [] s 0 0 (fun s' v => GI s' ∧ FL [1218, 1280] s0 s' ∧ ∃ z, v = some (vi z) ∧ ((-1004) ≤ z ∧ z ≤ 160) ∧ (FdC s0 s' a b z)) := by
  intro n
  induction n with
  | zero => intro s x1 x2 x4 x1000 hG f b_x1 b_x2 b_x4 b_x1000 r_4_1 w_0 w_1 w_2 w_3 w_4 e_x1000  hm; exfalso; omega
  | succ n ih =>
    intro s x1 x2 x4 x1000 hG f b_x1 b_x2 b_x4 b_x1000 r_4_1 w_0 w_1 w_2 w_3 w_4 e_x1000  hm
    refine x_A k104_38 (fun _ => rfl) ?_
    refine x_if_lt k104_40 (t := 68) rfl (by first | exact x_rb b_x4 rfl rfl | exact ⟨by omega, by omega⟩) (fun c43 => ?_) (fun c43 => ?_)
    · skip
      refine x_A k104_68 (fun _ => rfl) ?_
      refine x_getR k104_69 (f := 3) rfl (q := 0) (n := 12) (kd := 3) ⟨by decide, rfl⟩ (q2 := 177) (by decide) rfl ?_
      refine x_getI k104_72 (f := 1) rfl (q := 177) (n := 7) (kd := 7) ⟨by decide, rfl⟩ (by decide) rfl ?_
      refine x_rw (e_x1000.symm) ?_
      exact x_iret k104_75 rfl ⟨hG, f, x1000, rfl, (by first | exact x_rb b_x1000 rfl rfl | exact ⟨by omega, by omega⟩), (by unfold FdC; exact Or.inr (Or.inr ⟨by omega, by omega, by omega, by omega, by rw [show a - 1 - x4 = a by omega] at w_3; exact w_3⟩))⟩
    · skip
      refine x_A k104_43 (fun _ => rfl) ?_
      refine x_getR k104_44 (f := 3) rfl (q := 0) (n := 12) (kd := 3) ⟨by decide, rfl⟩ (q2 := 177) (by decide) rfl ?_
      refine x_A k104_47 (fun _ => rfl) ?_
      refine x_bipush k104_48 (by decide +kernel) ?_
      refine x_A k104_50 (fun _ => rfl) ?_
      refine x_imul k104_52 ?_
      refine x_top (fun z44 e_z44 => ?_)
      refine x_lushr_u k104_53 ⟨by omega, by omega⟩ (fun z45 b_z45 u_z45 => ?_)
      refine x_l2i_u k104_54 (fun z46 g_z46 u_z46 => ?_)
      unfold in32 at g_z46
      refine x_sipush k104_55 (by decide +kernel) ?_
      refine x_and255 k104_58 (fun z47 u_z47 => ?_)
      have hb : z47 = byt b x4 := byt_C (by rw [u_z45, show z44 = 8 * x4 by omega, show x2 = b from w_4]) u_z46 u_z47
      refine x_callV k104_59 (y := 47) (n := 1) (w0 := 0) (w1 := 1) (as := [vi z47]) (rest := []) (by decide +kernel) (q := 177) (nq := 7) (kq := 7) ⟨by decide, rfl⟩ rfl rfl rfl rfl (xe_mono (E_X6_add_177 s hG z47 (by first | exact x_rbe e_z47 g_z47 rfl rfl | exact x_rb g_z47 rfl rfl | exact ⟨by omega, by omega⟩) (by omega)) ?_)
      rintro s49 v ⟨hG_s49, t_s49, rfl, xp_z48⟩
      have f_s49 : FL [1218, 1280] s0 s49 := f.tr t_s49 (by decide +kernel)
      obtain ⟨z50, e_z50⟩ : ∃ z, z = s49 177 1 := ⟨_, rfl⟩
      have g_z50 : (0 : Int) ≤ s49 177 1 ∧ s49 177 1 ≤ 160 := hG_s49 177 1
      show xe none 104 62 [(0, .ref 0), (1, vi x1), (2, vj x2), (4, vi x4)] [] s49 0 0 _
      refine x_iinc k104_62 (ls' := [(4, vi (x4 + (-1))), (0, .ref 0), (1, vi x1), (2, vj x2)]) rfl (by decide) rfl ?_
      refine x_goto k104_65 (t := 38) rfl ?_
      refine x_ls (l := [(0, .ref 0), (1, vi x1), (2, vj x2), (4, vi (x4 + (-1)))]) (show ([0, 1, 2, 4] : List Nat).Nodup from by decide +kernel) ⟨rfl, rfl, rfl, rfl, trivial⟩ ?_
      exact ih s49 x1 x2 (x4 + (-1)) z50 hG_s49 f_s49 (by first | exact x_rb b_x1 rfl rfl | exact ⟨by omega, by omega⟩) b_x2 ⟨by omega, by omega⟩ (by first | exact x_rbe e_z50 g_z50 rfl rfl | exact x_rb g_z50 rfl rfl | exact ⟨by omega, by omega⟩) (by omega) (by omega) (by omega) (by omega) (by rw [show a - 1 - (x4 + (-1)) = (a - 1 - x4) + 1 by omega]; exact fd_up w_3 (by omega) (by omega) (fun j => by rw [xp_z48.2 j, show s 177 1 = s0 177 1 + (a - 1 - x4) by omega, hb, show a - 1 - (a - 1 - x4) = x4 by omega])) w_4 (e_z50.symm).symm  (by omega)
