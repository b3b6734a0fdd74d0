set_option maxHeartbeats 8000000 in
theorem L_E_X4_read_179_177_16 (s0 : xS) (a : Int) (b_a : 0 ≤ a ∧ a ≤ 9)  : ∀ (n : Nat) (s : xS) (x2 : Int) (x3 : Int) (x1000 : Int) (x1001 : Int) (x1002 : Int) (hG : GI s) (f : FL [1219, 1220, 1221, 1222, 1223, 1600, 1728, 1856, 1408, 1472, 1350] s0 s) (b_x2 : 0 ≤ x2 ∧ x2 ≤ 9) (b_x3 : 0 ≤ x3 ∧ x3 ≤ 9) (b_x1000 : 0 ≤ x1000 ∧ x1000 ≤ 7) (b_x1001 : 0 ≤ x1001 ∧ x1001 ≤ 5) (b_x1002 : 0 ≤ x1002 ∧ x1002 ≤ 160) (w_0 : x1000 = s0 179 5 ∧ x1000 ≤ 7) (w_1 : s 177 5 = 0 → NRr s (s0 179 5) x3) (w_2 : RdI s (s0 178) (s0 177 1) (s0 179 5) x3) (w_3 : OtR s s0 (s0 179 5)) (w_4 : s 178 = s0 178) (w_5 : x1002 = s0 177 1) (w_6 : 0 ≤ x3) (w_7 : s 180 = s0 180) (w_8 : s 181 = s0 181) (w_9 : TKs s) (w_10 : x2 = a) (e_x1000 : x1000 = s 179 5) (e_x1001 : x1001 = s 177 5) (e_x1002 : x1002 = s 177 1) (i_J : J s)  (hm : (9 - x3) < (n : Int)), xe none 35 16 [(0, .ref 179), (1, .ref 177), (2, vi x2), (3, vi x3)] [] s 0 0 (fun s' v => GI s' ∧ FL [1219, 1220, 1221, 1222, 1223, 1600, 1728, 1856, 1408, 1472, 1350] s0 s' ∧ v = none ∧ (RdC s0 s' a) ∧ J s') := by
  intro n
  induction n with
  | zero => intro s x2 x3 x1000 x1001 x1002 hG f b_x2 b_x3 b_x1000 b_x1001 b_x1002 w_0 w_1 w_2 w_3 w_4 w_5 w_6 w_7 w_8 w_9 w_10 e_x1000 e_x1001 e_x1002 i_J  hm; exfalso; omega
  | succ n ih =>
    intro s x2 x3 x1000 x1001 x1002 hG f b_x2 b_x3 b_x1000 b_x1001 b_x1002 w_0 w_1 w_2 w_3 w_4 w_5 w_6 w_7 w_8 w_9 w_10 e_x1000 e_x1001 e_x1002 i_J  hm
    refine x_A k35_16 (fun _ => rfl) ?_
    refine x_bipush k35_17 (by decide +kernel) ?_
    refine x_ic_gt k35_19 (t := 48) rfl (by first | exact x_rb b_x3 rfl rfl | exact ⟨by omega, by omega⟩) ⟨by decide, by decide⟩ (fun c482 => ?_) (fun c482 => ?_)
    · skip
      refine x_A k35_48 (fun _ => rfl) ?_
      refine x_getI k35_49 (f := 5) rfl (q := 177) (n := 7) (kd := 7) ⟨by decide, rfl⟩ (by decide) rfl ?_
      refine x_rw (e_x1001.symm) ?_
      refine x_if_eq k35_52 (t := 56) rfl (by first | exact x_rb b_x1001 rfl rfl | exact ⟨by omega, by omega⟩) (fun c483 => ?_) (fun c483 => ?_)
      · skip
        refine x_A k35_56 (fun _ => rfl) ?_
        refine x_getR k35_57 (f := 0) rfl (q := 179) (n := 6) (kd := 8) ⟨by decide, rfl⟩ (q2 := 180) (by decide) rfl ?_
        refine x_A k35_60 (fun _ => rfl) ?_
        refine x_getI k35_61 (f := 5) rfl (q := 179) (n := 6) (kd := 8) ⟨by decide, rfl⟩ (by decide) rfl ?_
        refine x_rw (e_x1000.symm) ?_
        refine x_A k35_64 (fun _ => rfl) ?_
        refine x_iast k35_65 (q := 180) (n := 8) ⟨by decide, rfl⟩ (by decide) (by first | exact x_rbl b_x1000 rfl rfl | exact ⟨by omega, by omega⟩) ?_
        refine x_nh (fun s484 e_s484 => ?_)
        have hG_s484 : GI s484 := by rw [e_s484]; exact hG.up (show 0 ≤ x2 ∧ x2 ≤ 9 from (by first | exact x_rb b_x2 rfl rfl | exact ⟨by omega, by omega⟩))
        have f_s484 : FL [1219, 1220, 1221, 1222, 1223, 1600, 1728, 1856, 1408, 1472, 1350] s0 s484 := by rw [e_s484]; exact f.up (show 1408 ∈ [1219, 1220, 1221, 1222, 1223, 1600, 1728, 1856, 1408, 1472, 1350] from by decide +kernel)
        have q485 : s484 179 5 = x1000 := by rw [e_s484, x_up_q (by decide)]; exact e_x1000.symm
        have q486 : s484 177 5 = x1001 := by rw [e_s484, x_up_q (by decide)]; exact e_x1001.symm
        have q487 : s484 177 1 = x1002 := by rw [e_s484, x_up_q (by decide)]; exact e_x1002.symm
        have q488 : s484 180 x1000.toNat = x2 := by rw [e_s484]; exact x_up_same
        have J_s484 : J s484 := by rw [e_s484]; exact J.up i_J (show 1408 ∉ LJ from by decide)
        have TK_s484 : TKs s484 := by rw [e_s484]; exact TKs.up w_9 (show 1408 ∉ LTK from by decide)
        refine x_A k35_66 (fun _ => rfl) ?_
        refine x_getR k35_67 (f := 1) rfl (q := 179) (n := 6) (kd := 8) ⟨by decide, rfl⟩ (q2 := 181) (by decide) rfl ?_
        refine x_A k35_70 (fun _ => rfl) ?_
        refine x_getI k35_71 (f := 5) rfl (q := 179) (n := 6) (kd := 8) ⟨by decide, rfl⟩ (by decide) rfl ?_
        refine x_rw (q485) ?_
        refine x_A k35_74 (fun _ => rfl) ?_
        refine x_iast k35_75 (q := 181) (n := 8) ⟨by decide, rfl⟩ (by decide) (by first | exact x_rbl b_x1000 rfl rfl | exact ⟨by omega, by omega⟩) ?_
        refine x_nh (fun s489 e_s489 => ?_)
        have hG_s489 : GI s489 := by rw [e_s489]; exact hG_s484.up (show 0 ≤ x3 ∧ x3 ≤ 9 from (by first | exact x_rb b_x3 rfl rfl | exact ⟨by omega, by omega⟩))
        have f_s489 : FL [1219, 1220, 1221, 1222, 1223, 1600, 1728, 1856, 1408, 1472, 1350] s0 s489 := by rw [e_s489]; exact f_s484.up (show 1472 ∈ [1219, 1220, 1221, 1222, 1223, 1600, 1728, 1856, 1408, 1472, 1350] from by decide +kernel)
        have q490 : s489 179 5 = x1000 := by rw [e_s489, x_up_q (by decide)]; exact q485
        have q491 : s489 177 5 = x1001 := by rw [e_s489, x_up_q (by decide)]; exact q486
        have q492 : s489 177 1 = x1002 := by rw [e_s489, x_up_q (by decide)]; exact q487
        have q493 : s489 180 x1000.toNat = x2 := by rw [e_s489, x_up_q (by first | decide | omega)]; exact q488
        have q494 : s489 181 x1000.toNat = x3 := by rw [e_s489]; exact x_up_same
        have TK_s489 : TKs s489 := by rw [e_s489]; exact TKs.up TK_s484 (show 1472 ∉ LTK from by decide)
        refine x_A k35_76 (fun _ => rfl) ?_
        refine x_A k35_77 (fun _ => rfl) ?_
        refine x_getI k35_78 (f := 5) rfl (q := 179) (n := 6) (kd := 8) ⟨by decide, rfl⟩ (by decide) rfl ?_
        refine x_rw (q490) ?_
        refine x_A k35_81 (fun _ => rfl) ?_
        refine x_iadd k35_82 ?_
        refine x_top (fun z495 e_z495 => ?_)
        refine x_putI k35_83 (f := 5) rfl (q := 179) (n := 6) (kd := 8) ⟨by decide, rfl⟩ rfl rfl rfl ?_
        refine x_nh (fun s496 e_s496 => ?_)
        have hG_s496 : GI s496 := by rw [e_s496]; exact hG_s489.up (show 0 ≤ z495 ∧ z495 ≤ 8 from (by first | exact x_rbe e_z495 g_z495 rfl rfl | exact x_rb g_z495 rfl rfl | exact ⟨by omega, by omega⟩))
        have f_s496 : FL [1219, 1220, 1221, 1222, 1223, 1600, 1728, 1856, 1408, 1472, 1350] s0 s496 := by rw [e_s496]; exact f_s489.up (show 1350 ∈ [1219, 1220, 1221, 1222, 1223, 1600, 1728, 1856, 1408, 1472, 1350] from by decide +kernel)
        have q497 : s496 177 5 = x1001 := by rw [e_s496, x_up_q (by decide)]; exact q491
        have q498 : s496 177 1 = x1002 := by rw [e_s496, x_up_q (by decide)]; exact q492
        have q499 : s496 179 5 = z495 := by rw [e_s496]; exact x_up_same
        have q500 : s496 180 x1000.toNat = x2 := by rw [e_s496, x_up_q (by first | decide | omega)]; exact q493
        have q501 : s496 181 x1000.toNat = x3 := by rw [e_s496, x_up_q (by first | decide | omega)]; exact q494
        have TK_s496 : TKs s496 := by rw [e_s496]; exact TKs.up TK_s489 (show 1350 ∉ LTK from by decide)
        have J_r : J s496 := by rw [e_s496, e_s489, e_s484]; exact J.crule i_J e_x1000 ⟨by omega, by omega⟩ (by omega) (by rw [show x1000 = s0 179 5 by omega]; exact w_1 (by omega))
        obtain ⟨z502, e_z502⟩ : ∃ z, z = s496 177 6 := ⟨_, rfl⟩
        have g_z502 : (-2147483648) ≤ s496 177 6 ∧ s496 177 6 ≤ 2147483647 := hG_s496 177 6
        exact x_vret k35_86 rfl ⟨hG_s496, f_s496, rfl, (RdC.good w_2 (by omega) (Or.inr (by omega)) (by omega) ⟨by omega, by omega⟩ w_3 (fun r j h1 h2 => by rw [e_s496, x_up_q (by omega), e_s489, x_up_q (by omega), e_s484, x_up_q (by omega)]) (by rw [e_s496, x_up_q (by decide), e_s489, x_up_q (by decide), e_s484, x_up_q (by decide)]) (by rw [e_s496, x_up_q (by decide), e_s489, x_up_q (by decide), e_s484, x_up_q (by decide)]) (by omega) (fun j => by rw [e_s496, x_up_q (by decide), e_s489, x_up_q (by decide), e_s484, x_up_at, show x1000 = s0 179 5 by omega, show x2 = a by omega, w_7]) (fun j => by rw [e_s496, x_up_q (by decide), e_s489, x_up_at, e_s484, x_up_q (by decide), show x1000 = s0 179 5 by omega, w_8])), J_r⟩
      · skip
        obtain ⟨z503, e_z503⟩ : ∃ z, z = s 177 6 := ⟨_, rfl⟩
        have g_z503 : (-2147483648) ≤ s 177 6 ∧ s 177 6 ≤ 2147483647 := hG 177 6
        exact x_vret k35_55 rfl ⟨hG, f, rfl, (RdC.bad w_2 (by omega) ⟨by omega, by omega⟩ w_3 (by omega) w_7 w_8), i_J⟩
    · skip
      refine x_A k35_22 (fun _ => rfl) ?_
      refine x_getI k35_23 (f := 5) rfl (q := 177) (n := 7) (kd := 7) ⟨by decide, rfl⟩ (by decide) rfl ?_
      refine x_rw (e_x1001.symm) ?_
      refine x_if_ne k35_26 (t := 48) rfl (by first | exact x_rb b_x1001 rfl rfl | exact ⟨by omega, by omega⟩) (fun c504 => ?_) (fun c504 => ?_)
      · skip
        refine x_A k35_48 (fun _ => rfl) ?_
        refine x_getI k35_49 (f := 5) rfl (q := 177) (n := 7) (kd := 7) ⟨by decide, rfl⟩ (by decide) rfl ?_
        refine x_rw (e_x1001.symm) ?_
        refine x_if_eq k35_52 (t := 56) rfl (by first | exact x_rb b_x1001 rfl rfl | exact ⟨by omega, by omega⟩) (fun c505 => by exfalso; omega) (fun c505 => ?_)
        obtain ⟨z506, e_z506⟩ : ∃ z, z = s 177 6 := ⟨_, rfl⟩
        have g_z506 : (-2147483648) ≤ s 177 6 ∧ s 177 6 ≤ 2147483647 := hG 177 6
        exact x_vret k35_55 rfl ⟨hG, f, rfl, (RdC.bad w_2 (by omega) ⟨by omega, by omega⟩ w_3 (by omega) w_7 w_8), i_J⟩
      · skip
        refine x_A k35_29 (fun _ => rfl) ?_
        refine x_getI k35_30 (f := 2) rfl (q := 177) (n := 7) (kd := 7) ⟨by decide, rfl⟩ (by decide) rfl ?_
        refine x_top (fun z507 e_z507 => ?_)
        have g_z507 : (0 : Int) ≤ s 177 2 ∧ s 177 2 ≤ 3 := hG 177 2
        refine x_if_eq k35_33 (t := 48) rfl (by first | exact x_rbe e_z507 g_z507 rfl rfl | exact x_rb g_z507 rfl rfl | exact ⟨by omega, by omega⟩) (fun c508 => ?_) (fun c508 => ?_)
        · skip
          refine x_A k35_48 (fun _ => rfl) ?_
          refine x_getI k35_49 (f := 5) rfl (q := 177) (n := 7) (kd := 7) ⟨by decide, rfl⟩ (by decide) rfl ?_
          refine x_rw (e_x1001.symm) ?_
          refine x_if_eq k35_52 (t := 56) rfl (by first | exact x_rb b_x1001 rfl rfl | exact ⟨by omega, by omega⟩) (fun c509 => ?_) (fun c509 => by exfalso; omega)
          refine x_A k35_56 (fun _ => rfl) ?_
          refine x_getR k35_57 (f := 0) rfl (q := 179) (n := 6) (kd := 8) ⟨by decide, rfl⟩ (q2 := 180) (by decide) rfl ?_
          refine x_A k35_60 (fun _ => rfl) ?_
          refine x_getI k35_61 (f := 5) rfl (q := 179) (n := 6) (kd := 8) ⟨by decide, rfl⟩ (by decide) rfl ?_
          refine x_rw (e_x1000.symm) ?_
          refine x_A k35_64 (fun _ => rfl) ?_
          refine x_iast k35_65 (q := 180) (n := 8) ⟨by decide, rfl⟩ (by decide) (by first | exact x_rbl b_x1000 rfl rfl | exact ⟨by omega, by omega⟩) ?_
          refine x_nh (fun s510 e_s510 => ?_)
          have hG_s510 : GI s510 := by rw [e_s510]; exact hG.up (show 0 ≤ x2 ∧ x2 ≤ 9 from (by first | exact x_rb b_x2 rfl rfl | exact ⟨by omega, by omega⟩))
          have f_s510 : FL [1219, 1220, 1221, 1222, 1223, 1600, 1728, 1856, 1408, 1472, 1350] s0 s510 := by rw [e_s510]; exact f.up (show 1408 ∈ [1219, 1220, 1221, 1222, 1223, 1600, 1728, 1856, 1408, 1472, 1350] from by decide +kernel)
          have q511 : s510 179 5 = x1000 := by rw [e_s510, x_up_q (by decide)]; exact e_x1000.symm
          have q512 : s510 177 5 = x1001 := by rw [e_s510, x_up_q (by decide)]; exact e_x1001.symm
          have q513 : s510 177 1 = x1002 := by rw [e_s510, x_up_q (by decide)]; exact e_x1002.symm
          have q514 : s510 177 2 = z507 := by rw [e_s510, x_up_q (by decide)]; exact e_z507.symm
          have q515 : s510 180 x1000.toNat = x2 := by rw [e_s510]; exact x_up_same
          have J_s510 : J s510 := by rw [e_s510]; exact J.up i_J (show 1408 ∉ LJ from by decide)
          have TK_s510 : TKs s510 := by rw [e_s510]; exact TKs.up w_9 (show 1408 ∉ LTK from by decide)
          refine x_A k35_66 (fun _ => rfl) ?_
          refine x_getR k35_67 (f := 1) rfl (q := 179) (n := 6) (kd := 8) ⟨by decide, rfl⟩ (q2 := 181) (by decide) rfl ?_
          refine x_A k35_70 (fun _ => rfl) ?_
          refine x_getI k35_71 (f := 5) rfl (q := 179) (n := 6) (kd := 8) ⟨by decide, rfl⟩ (by decide) rfl ?_
          refine x_rw (q511) ?_
          refine x_A k35_74 (fun _ => rfl) ?_
          refine x_iast k35_75 (q := 181) (n := 8) ⟨by decide, rfl⟩ (by decide) (by first | exact x_rbl b_x1000 rfl rfl | exact ⟨by omega, by omega⟩) ?_
          refine x_nh (fun s516 e_s516 => ?_)
          have hG_s516 : GI s516 := by rw [e_s516]; exact hG_s510.up (show 0 ≤ x3 ∧ x3 ≤ 9 from (by first | exact x_rb b_x3 rfl rfl | exact ⟨by omega, by omega⟩))
          have f_s516 : FL [1219, 1220, 1221, 1222, 1223, 1600, 1728, 1856, 1408, 1472, 1350] s0 s516 := by rw [e_s516]; exact f_s510.up (show 1472 ∈ [1219, 1220, 1221, 1222, 1223, 1600, 1728, 1856, 1408, 1472, 1350] from by decide +kernel)
          have q517 : s516 179 5 = x1000 := by rw [e_s516, x_up_q (by decide)]; exact q511
          have q518 : s516 177 5 = x1001 := by rw [e_s516, x_up_q (by decide)]; exact q512
          have q519 : s516 177 1 = x1002 := by rw [e_s516, x_up_q (by decide)]; exact q513
          have q520 : s516 177 2 = z507 := by rw [e_s516, x_up_q (by decide)]; exact q514
          have q521 : s516 180 x1000.toNat = x2 := by rw [e_s516, x_up_q (by first | decide | omega)]; exact q515
          have q522 : s516 181 x1000.toNat = x3 := by rw [e_s516]; exact x_up_same
          have TK_s516 : TKs s516 := by rw [e_s516]; exact TKs.up TK_s510 (show 1472 ∉ LTK from by decide)
          refine x_A k35_76 (fun _ => rfl) ?_
          refine x_A k35_77 (fun _ => rfl) ?_
          refine x_getI k35_78 (f := 5) rfl (q := 179) (n := 6) (kd := 8) ⟨by decide, rfl⟩ (by decide) rfl ?_
          refine x_rw (q517) ?_
          refine x_A k35_81 (fun _ => rfl) ?_
          refine x_iadd k35_82 ?_
          refine x_top (fun z523 e_z523 => ?_)
          refine x_putI k35_83 (f := 5) rfl (q := 179) (n := 6) (kd := 8) ⟨by decide, rfl⟩ rfl rfl rfl ?_
          refine x_nh (fun s524 e_s524 => ?_)
          have hG_s524 : GI s524 := by rw [e_s524]; exact hG_s516.up (show 0 ≤ z523 ∧ z523 ≤ 8 from (by first | exact x_rbe e_z523 g_z523 rfl rfl | exact x_rb g_z523 rfl rfl | exact ⟨by omega, by omega⟩))
          have f_s524 : FL [1219, 1220, 1221, 1222, 1223, 1600, 1728, 1856, 1408, 1472, 1350] s0 s524 := by rw [e_s524]; exact f_s516.up (show 1350 ∈ [1219, 1220, 1221, 1222, 1223, 1600, 1728, 1856, 1408, 1472, 1350] from by decide +kernel)
          have q525 : s524 177 5 = x1001 := by rw [e_s524, x_up_q (by decide)]; exact q518
          have q526 : s524 177 1 = x1002 := by rw [e_s524, x_up_q (by decide)]; exact q519
          have q527 : s524 177 2 = z507 := by rw [e_s524, x_up_q (by decide)]; exact q520
          have q528 : s524 179 5 = z523 := by rw [e_s524]; exact x_up_same
          have q529 : s524 180 x1000.toNat = x2 := by rw [e_s524, x_up_q (by first | decide | omega)]; exact q521
          have q530 : s524 181 x1000.toNat = x3 := by rw [e_s524, x_up_q (by first | decide | omega)]; exact q522
          have TK_s524 : TKs s524 := by rw [e_s524]; exact TKs.up TK_s516 (show 1350 ∉ LTK from by decide)
          have J_r : J s524 := by rw [e_s524, e_s516, e_s510]; exact J.crule i_J e_x1000 ⟨by omega, by omega⟩ (by omega) (by rw [show x1000 = s0 179 5 by omega]; exact w_1 (by omega))
          obtain ⟨z531, e_z531⟩ : ∃ z, z = s524 177 6 := ⟨_, rfl⟩
          have g_z531 : (-2147483648) ≤ s524 177 6 ∧ s524 177 6 ≤ 2147483647 := hG_s524 177 6
          exact x_vret k35_86 rfl ⟨hG_s524, f_s524, rfl, (RdC.good w_2 (by omega) (Or.inl (by have tk := w_9; unfold TKs TK at tk; rw [w_4, show s 177 1 = s0 177 1 by omega] at tk; omega)) (by omega) ⟨by omega, by omega⟩ w_3 (fun r j h1 h2 => by rw [e_s524, x_up_q (by omega), e_s516, x_up_q (by omega), e_s510, x_up_q (by omega)]) (by rw [e_s524, x_up_q (by decide), e_s516, x_up_q (by decide), e_s510, x_up_q (by decide)]) (by rw [e_s524, x_up_q (by decide), e_s516, x_up_q (by decide), e_s510, x_up_q (by decide)]) (by omega) (fun j => by rw [e_s524, x_up_q (by decide), e_s516, x_up_q (by decide), e_s510, x_up_at, show x1000 = s0 179 5 by omega, show x2 = a by omega, w_7]) (fun j => by rw [e_s524, x_up_q (by decide), e_s516, x_up_at, e_s510, x_up_q (by decide), show x1000 = s0 179 5 by omega, w_8])), J_r⟩
        · skip
          refine x_A k35_36 (fun _ => rfl) ?_
          refine x_A k35_37 (fun _ => rfl) ?_
          refine x_A k35_38 (fun _ => rfl) ?_
          have Nc_i : NRr s (s 179 5) x3 := by rw [show s 179 5 = s0 179 5 by omega]; exact w_1 (by omega)
          refine x_callV k35_39 (y := 37) (n := 2) (w0 := 0) (w1 := 2) (as := [.ref 177, vi x3]) (rest := []) (by decide +kernel) (q := 179) (nq := 6) (kq := 8) ⟨by decide, rfl⟩ rfl rfl rfl rfl (xe_mono (E_X4_readClause_179_177 s hG x3 (by first | exact x_rb b_x3 rfl rfl | exact ⟨by omega, by omega⟩) ⟨by omega, by omega⟩ i_J Nc_i w_9 (RKp.rf (R := s 179 5) (a := x3))) ?_)
          rintro s533 v ⟨hG_s533, t_s533, rfl, xp_z532, J_s533, Nc_s533, TK_s533, RK_s533⟩
          have f_s533 : FL [1219, 1220, 1221, 1222, 1223, 1600, 1728, 1856, 1408, 1472, 1350] s0 s533 := f.tr t_s533 (by decide +kernel)
          have q534 : s533 179 5 = x1000 := (t_s533 179 5 (show 1350 ∉ [1219, 1220, 1221, 1222, 1223, 1600, 1728, 1856] from by decide +kernel)).trans e_x1000.symm
          have q535 : s533 177 1 = x1002 := (t_s533 177 1 (show 1218 ∉ [1219, 1220, 1221, 1222, 1223, 1600, 1728, 1856] from by decide +kernel)).trans e_x1002.symm
          obtain ⟨z536, e_z536⟩ : ∃ z, z = s533 177 5 := ⟨_, rfl⟩
          have g_z536 : (0 : Int) ≤ s533 177 5 ∧ s533 177 5 ≤ 5 := hG_s533 177 5
          show xe none 35 42 [(0, .ref 179), (1, .ref 177), (2, vi x2), (3, vi x3)] [] s533 0 0 _
          refine x_iinc k35_42 (ls' := [(3, vi (x3 + 1)), (0, .ref 179), (1, .ref 177), (2, vi x2)]) rfl (by decide) rfl ?_
          refine x_goto k35_45 (t := 16) rfl ?_
          refine x_ls (l := [(0, .ref 179), (1, .ref 177), (2, vi x2), (3, vi (x3 + 1))]) (show ([0, 1, 2, 3] : List Nat).Nodup from by decide +kernel) ⟨rfl, rfl, rfl, rfl, trivial⟩ ?_
          exact ih s533 x2 (x3 + 1) x1000 z536 x1002 hG_s533 f_s533 (by first | exact x_rb b_x2 rfl rfl | exact ⟨by omega, by omega⟩) ⟨by omega, by omega⟩ (by first | exact x_rb b_x1000 rfl rfl | exact ⟨by omega, by omega⟩) (by first | exact x_rbe e_z536 g_z536 rfl rfl | exact x_rb g_z536 rfl rfl | exact ⟨by omega, by omega⟩) (by first | exact x_rb b_x1002 rfl rfl | exact ⟨by omega, by omega⟩) (by omega) (fun hz => by rw [show s0 179 5 = s 179 5 by omega]; exact (xp_z532.1 (by omega)).2.2) (RdI.step w_2 w_4 (by omega) (by omega) ⟨by omega, by omega⟩ (by omega) (by omega) (by have tk := w_9; unfold TKs TK at tk; rw [w_4, show s 177 1 = s0 177 1 by omega] at tk; omega) xp_z532.2 (by rw [← show s 179 5 = s0 179 5 by omega]; exact RK_s533)) (fun r j h1 h2 h3 => (RK_s533 r j h1 h2 (Or.inr (by rw [show s 179 5 = s0 179 5 by omega]; exact h3))).trans (w_3 r j h1 h2 h3)) (show s533 178 = s0 178 from funext fun i => f_s533 178 i (show 1280 ∉ [1219, 1220, 1221, 1222, 1223, 1600, 1728, 1856, 1408, 1472, 1350] from by decide +kernel)) (by omega) (by omega) ((funext fun i => t_s533 180 i (show 1408 ∉ _ from by decide)).trans w_7) ((funext fun i => t_s533 181 i (show 1472 ∉ _ from by decide)).trans w_8) TK_s533 (by omega) (q534).symm (e_z536.symm).symm (q535).symm J_s533  (by omega)
set_option maxHeartbeats 8000000 in
theorem E_X4_read_179_177 (s0 : xS) (hG0 : GI s0) (a : Int) (b_a : 0 ≤ a ∧ a ≤ 9) (p_179_5 : 0 ≤ s0 179 5 ∧ s0 179 5 ≤ 7) (i0_J : J s0) : xe none 35 0 (lv_args 0 [.ref 179, .ref 177, vi a]) [] s0 0 0 (fun s' v => GI s' ∧ FL [1219, 1220, 1221, 1222, 1223, 1600, 1728, 1856, 1408, 1472, 1350] s0 s' ∧ v = none ∧ (RdC s0 s' a) ∧ J s') := by
  have f0 : FL [1219, 1220, 1221, 1222, 1223, 1600, 1728, 1856, 1408, 1472, 1350] s0 s0 := FL.rf
  show xe none 35 0 [(0, .ref 179), (1, .ref 177), (2, vi a)] [] s0 0 0 _
  obtain ⟨z537, e_z537⟩ : ∃ z, z = s0 179 5 := ⟨_, rfl⟩
  have g_z537 : (0 : Int) ≤ s0 179 5 ∧ s0 179 5 ≤ 8 := hG0 179 5
  obtain ⟨z538, e_z538⟩ : ∃ z, z = s0 177 1 := ⟨_, rfl⟩
  have g_z538 : (0 : Int) ≤ s0 177 1 ∧ s0 177 1 ≤ 160 := hG0 177 1
  refine x_A k35_0 (fun _ => rfl) ?_
  refine x_callV k35_1 (y := 48) (n := 0) (w0 := 0) (w1 := 0) (as := []) (rest := []) (by decide +kernel) (q := 177) (nq := 7) (kq := 7) ⟨by decide, rfl⟩ rfl rfl rfl rfl (xe_mono (E_X6_startReading_177 s0 hG0) ?_)
  rintro s540 v ⟨hG_s540, t_s540, rfl, xp_z539⟩
  have f_s540 : FL [1219, 1220, 1221, 1222, 1223, 1600, 1728, 1856, 1408, 1472, 1350] s0 s540 := f0.tr t_s540 (by decide +kernel)
  have q541 : s540 179 5 = z537 := (t_s540 179 5 (show 1350 ∉ [1219, 1220, 1221, 1222, 1223] from by decide +kernel)).trans e_z537.symm
  have q542 : s540 177 1 = z538 := (t_s540 177 1 (show 1218 ∉ [1219, 1220, 1221, 1222, 1223] from by decide +kernel)).trans e_z538.symm
  have J_s540 : J s540 := J.fl i0_J t_s540 (by decide +kernel)
  obtain ⟨z543, e_z543⟩ : ∃ z, z = s540 177 5 := ⟨_, rfl⟩
  have g_z543 : (0 : Int) ≤ s540 177 5 ∧ s540 177 5 ≤ 5 := hG_s540 177 5
  obtain ⟨z544, e_z544⟩ : ∃ z, z = s540 177 6 := ⟨_, rfl⟩
  have g_z544 : (-2147483648) ≤ s540 177 6 ∧ s540 177 6 ≤ 2147483647 := hG_s540 177 6
  show xe none 35 4 [(0, .ref 179), (1, .ref 177), (2, vi a)] [] s540 0 0 _
  obtain ⟨z545, e_z545⟩ : ∃ z, z = s540 177 3 := ⟨_, rfl⟩
  have g_z545 : (0 : Int) ≤ s540 177 3 ∧ s540 177 3 ≤ 160 := hG_s540 177 3
  have tq546 := xp_z539.2.2
  have TK_s540 : TKs s540 := TK.s tq546 (show s540 178 = s0 178 from funext fun i => f_s540 178 i (show 1280 ∉ [1219, 1220, 1221, 1222, 1223, 1600, 1728, 1856, 1408, 1472, 1350] from by decide +kernel)) (by omega)
  have p0_ := tq546.2.2.1
  refine x_A k35_4 (fun _ => rfl) ?_
  refine x_getI k35_5 (f := 5) rfl (q := 179) (n := 6) (kd := 8) ⟨by decide, rfl⟩ (by decide) rfl ?_
  refine x_rw (q541) ?_
  refine x_bipush k35_8 (by decide +kernel) ?_
  refine x_ic_lt k35_10 (t := 14) rfl (by first | exact x_rbe e_z537 g_z537 rfl rfl | exact x_rb g_z537 rfl rfl | exact ⟨by omega, by omega⟩) ⟨by decide, by decide⟩ (fun c547 => ?_) (fun c547 => by exfalso; omega)
  refine x_A k35_14 (fun _ => rfl) ?_
  refine x_istore_n k35_15 (ls' := [(3, vi 0), (0, .ref 179), (1, .ref 177), (2, vi a)]) (by decide) rfl ?_
  refine x_ls (l := [(0, .ref 179), (1, .ref 177), (2, vi a), (3, vi 0)]) (show ([0, 1, 2, 3] : List Nat).Nodup from by decide +kernel) ⟨rfl, rfl, rfl, rfl, trivial⟩ ?_
  exact L_E_X4_read_179_177_16 s0 a b_a  (((9 - 0) + 1 : Int)).toNat s540 a 0 z537 z543 z538 hG_s540 f_s540 (by first | exact x_rb b_a rfl rfl | exact ⟨by omega, by omega⟩) ⟨by decide, by decide⟩ (by first | exact x_rbe e_z537 g_z537 rfl rfl | exact x_rb g_z537 rfl rfl | exact ⟨by omega, by omega⟩) (by first | exact x_rbe e_z543 g_z543 rfl rfl | exact x_rb g_z543 rfl rfl | exact ⟨by omega, by omega⟩) (by first | exact x_rbe e_z538 g_z538 rfl rfl | exact x_rb g_z538 rfl rfl | exact ⟨by omega, by omega⟩) (by omega) (fun _ => ⟨by omega, by omega, fun j j0 j1 => by omega⟩) (Or.inl ⟨by omega, by omega, p0_, fun j j0 j1 => by omega, fun j j0 j1 => by omega⟩) (fun r j h1 h2 _ => FL.rows t_s540 (by decide) r j h1 h2) (show s540 178 = s0 178 from funext fun i => f_s540 178 i (show 1280 ∉ [1219, 1220, 1221, 1222, 1223, 1600, 1728, 1856, 1408, 1472, 1350] from by decide +kernel)) (by omega) (by omega) (funext fun i => t_s540 180 i (show 1408 ∉ _ from by decide)) (funext fun i => t_s540 181 i (show 1472 ∉ _ from by decide)) TK_s540 (by omega) (q541).symm (e_z543.symm).symm (q542).symm J_s540  (by omega)
set_option maxHeartbeats 8000000 in
theorem E_X10_afterReading_0 (s0 : xS) (hG0 : GI s0) (a : Int) (b_a : (-2147483648) ≤ a ∧ a ≤ 2147483647) : xe none 128 0 (lv_args 0 [.ref 0, vi a]) [] s0 0 0 (fun s' v => GI s' ∧ FL [12, 1218] s0 s' ∧ ∃ z, v = some (vi z) ∧ ((-2147483648) ≤ z ∧ z ≤ 2147483647) ∧ (s' 177 1 = 0 ∧ ((s0 177 5 = 0 ∧ z = a ∧ s' 0 11 = -1) ∨ (s0 177 5 ≠ 0 ∧ z = -10 - s0 177 5 ∧ s' 0 11 = s0 177 6)))) := by
  have f0 : FL [12, 1218] s0 s0 := FL.rf
  show xe none 128 0 [(0, .ref 0), (1, vi a)] [] s0 0 0 _
  obtain ⟨z1, e_z1⟩ : ∃ z, z = s0 177 5 := ⟨_, rfl⟩
  have g_z1 : (0 : Int) ≤ s0 177 5 ∧ s0 177 5 ≤ 5 := hG0 177 5
  obtain ⟨z2, e_z2⟩ : ∃ z, z = s0 177 6 := ⟨_, rfl⟩
  have g_z2 : (-2147483648) ≤ s0 177 6 ∧ s0 177 6 ≤ 2147483647 := hG0 177 6
  refine x_A k128_0 (fun _ => rfl) ?_
  refine x_getR k128_1 (f := 3) rfl (q := 0) (n := 12) (kd := 3) ⟨by decide, rfl⟩ (q2 := 177) (by decide) rfl ?_
  refine x_getI k128_4 (f := 5) rfl (q := 177) (n := 7) (kd := 7) ⟨by decide, rfl⟩ (by decide) rfl ?_
  refine x_rw (e_z1.symm) ?_
  refine x_if_ne k128_7 (t := 14) rfl (by first | exact x_rbe e_z1 g_z1 rfl rfl | exact x_rb g_z1 rfl rfl | exact ⟨by omega, by omega⟩) (fun c3 => ?_) (fun c3 => ?_)
  · skip
    refine x_A k128_14 (fun _ => rfl) ?_
    refine x_istore_n k128_15 (ls' := [(2, vi 0), (0, .ref 0), (1, vi a)]) (by decide) rfl ?_
    refine x_A k128_16 (fun _ => rfl) ?_
    refine x_A k128_17 (fun _ => rfl) ?_
    refine x_if_eq k128_18 (t := 25) rfl ⟨by decide, by decide⟩ (fun c4 => ?_) (fun c4 => by exfalso; omega)
    refine x_A k128_25 (fun _ => rfl) ?_
    refine x_getR k128_26 (f := 3) rfl (q := 0) (n := 12) (kd := 3) ⟨by decide, rfl⟩ (q2 := 177) (by decide) rfl ?_
    refine x_getI k128_29 (f := 6) rfl (q := 177) (n := 7) (kd := 7) ⟨by decide, rfl⟩ (by decide) rfl ?_
    refine x_rw (e_z2.symm) ?_
    refine x_putI k128_32 (f := 11) rfl (q := 0) (n := 12) (kd := 3) ⟨by decide, rfl⟩ rfl rfl rfl ?_
    refine x_nh (fun s5 e_s5 => ?_)
    have hG_s5 : GI s5 := by rw [e_s5]; exact hG0.up (show (-2147483648) ≤ z2 ∧ z2 ≤ 2147483647 from (by first | exact x_rbe e_z2 g_z2 rfl rfl | exact x_rb g_z2 rfl rfl | exact ⟨by omega, by omega⟩))
    have f_s5 : FL [12, 1218] s0 s5 := by rw [e_s5]; exact f0.up (show 12 ∈ [12, 1218] from by decide +kernel)
    have q6 : s5 177 5 = z1 := by rw [e_s5, x_up_q (by decide)]; exact e_z1.symm
    have q7 : s5 177 6 = z2 := by rw [e_s5, x_up_q (by decide)]; exact e_z2.symm
    have q8 : s5 0 11 = z2 := by rw [e_s5]; exact x_up_same
    refine x_A k128_35 (fun _ => rfl) ?_
    refine x_getR k128_36 (f := 3) rfl (q := 0) (n := 12) (kd := 3) ⟨by decide, rfl⟩ (q2 := 177) (by decide) rfl ?_
    refine x_A k128_39 (fun _ => rfl) ?_
    refine x_putI k128_40 (f := 1) rfl (q := 177) (n := 7) (kd := 7) ⟨by decide, rfl⟩ rfl rfl rfl ?_
    refine x_nh (fun s9 e_s9 => ?_)
    have hG_s9 : GI s9 := by rw [e_s9]; exact hG_s5.up (show 0 ≤ 0 ∧ 0 ≤ 160 from ⟨by decide, by decide⟩)
    have f_s9 : FL [12, 1218] s0 s9 := by rw [e_s9]; exact f_s5.up (show 1218 ∈ [12, 1218] from by decide +kernel)
    have q10 : s9 177 5 = z1 := by rw [e_s9, x_up_i (by decide)]; exact q6
    have q11 : s9 177 6 = z2 := by rw [e_s9, x_up_i (by decide)]; exact q7
    have q12 : s9 0 11 = z2 := by rw [e_s9, x_up_q (by decide)]; exact q8
    have q13 : s9 177 1 = 0 := by rw [e_s9]; exact x_up_same
    refine x_A k128_43 (fun _ => rfl) ?_
    refine x_if_eq k128_44 (t := 51) rfl ⟨by decide, by decide⟩ (fun c14 => ?_) (fun c14 => by exfalso; omega)
    refine x_bipush k128_51 (by decide +kernel) ?_
    refine x_A k128_53 (fun _ => rfl) ?_
    refine x_getR k128_54 (f := 3) rfl (q := 0) (n := 12) (kd := 3) ⟨by decide, rfl⟩ (q2 := 177) (by decide) rfl ?_
    refine x_getI k128_57 (f := 5) rfl (q := 177) (n := 7) (kd := 7) ⟨by decide, rfl⟩ (by decide) rfl ?_
    refine x_rw (q10) ?_
    refine x_isub k128_60 ?_
    refine x_top (fun z15 e_z15 => ?_)
    exact x_iret k128_61 rfl ⟨hG_s9, f_s9, z15, rfl, (by first | exact x_rbe e_z15 g_z15 rfl rfl | exact x_rb g_z15 rfl rfl | exact ⟨by omega, by omega⟩), by omega⟩
  · skip
    refine x_A k128_10 (fun _ => rfl) ?_
    refine x_goto k128_11 (t := 15) rfl ?_
    refine x_istore_n k128_15 (ls' := [(2, vi 1), (0, .ref 0), (1, vi a)]) (by decide) rfl ?_
    refine x_A k128_16 (fun _ => rfl) ?_
    refine x_A k128_17 (fun _ => rfl) ?_
    refine x_if_eq k128_18 (t := 25) rfl ⟨by decide, by decide⟩ (fun c16 => by exfalso; omega) (fun c16 => ?_)
    refine x_A k128_21 (fun _ => rfl) ?_
    refine x_goto k128_22 (t := 32) rfl ?_
    refine x_putI k128_32 (f := 11) rfl (q := 0) (n := 12) (kd := 3) ⟨by decide, rfl⟩ rfl rfl rfl ?_
    refine x_nh (fun s17 e_s17 => ?_)
    have hG_s17 : GI s17 := by rw [e_s17]; exact hG0.up (show (-2147483648) ≤ (-1) ∧ (-1) ≤ 2147483647 from ⟨by decide, by decide⟩)
    have f_s17 : FL [12, 1218] s0 s17 := by rw [e_s17]; exact f0.up (show 12 ∈ [12, 1218] from by decide +kernel)
    have q18 : s17 177 5 = z1 := by rw [e_s17, x_up_q (by decide)]; exact e_z1.symm
    have q19 : s17 177 6 = z2 := by rw [e_s17, x_up_q (by decide)]; exact e_z2.symm
    have q20 : s17 0 11 = (-1) := by rw [e_s17]; exact x_up_same
    refine x_A k128_35 (fun _ => rfl) ?_
    refine x_getR k128_36 (f := 3) rfl (q := 0) (n := 12) (kd := 3) ⟨by decide, rfl⟩ (q2 := 177) (by decide) rfl ?_
    refine x_A k128_39 (fun _ => rfl) ?_
    refine x_putI k128_40 (f := 1) rfl (q := 177) (n := 7) (kd := 7) ⟨by decide, rfl⟩ rfl rfl rfl ?_
    refine x_nh (fun s21 e_s21 => ?_)
    have hG_s21 : GI s21 := by rw [e_s21]; exact hG_s17.up (show 0 ≤ 0 ∧ 0 ≤ 160 from ⟨by decide, by decide⟩)
    have f_s21 : FL [12, 1218] s0 s21 := by rw [e_s21]; exact f_s17.up (show 1218 ∈ [12, 1218] from by decide +kernel)
    have q22 : s21 177 5 = z1 := by rw [e_s21, x_up_i (by decide)]; exact q18
    have q23 : s21 177 6 = z2 := by rw [e_s21, x_up_i (by decide)]; exact q19
    have q24 : s21 0 11 = (-1) := by rw [e_s21, x_up_q (by decide)]; exact q20
    have q25 : s21 177 1 = 0 := by rw [e_s21]; exact x_up_same
    refine x_A k128_43 (fun _ => rfl) ?_
    refine x_if_eq k128_44 (t := 51) rfl ⟨by decide, by decide⟩ (fun c26 => by exfalso; omega) (fun c26 => ?_)
    refine x_A k128_47 (fun _ => rfl) ?_
    refine x_goto k128_48 (t := 61) rfl ?_
    exact x_iret k128_61 rfl ⟨hG_s21, f_s21, a, rfl, (by first | exact x_rb b_a rfl rfl | exact ⟨by omega, by omega⟩), by omega⟩
set_option maxHeartbeats 8000000 in
theorem E_X10_rule_0 (s0 : xS) (hG0 : GI s0) (a : Int) (b_a : (-2147483648) ≤ a ∧ a ≤ 2147483647) (i0_J : J s0) : xe none 105 0 (lv_args 0 [.ref 0, vi a]) [] s0 0 0 (fun s' v => GI s' ∧ FL [1219, 1220, 1221, 1222, 1223, 1600, 1728, 1856, 1408, 1472, 1350, 3276, 3277, 12, 1218] s0 s' ∧ ∃ z, v = some (vi z) ∧ ((-2147483648) ≤ z ∧ z ≤ 2147483647) ∧ (RuC s0 s' a z) ∧ J s') := by
  have f0 : FL [1219, 1220, 1221, 1222, 1223, 1600, 1728, 1856, 1408, 1472, 1350, 3276, 3277, 12, 1218] s0 s0 := FL.rf
  show xe none 105 0 [(0, .ref 0), (1, vi a)] [] s0 0 0 _
  obtain ⟨z1, e_z1⟩ : ∃ z, z = s0 179 5 := ⟨_, rfl⟩
  have g_z1 : (0 : Int) ≤ s0 179 5 ∧ s0 179 5 ≤ 8 := hG0 179 5
  refine x_A k105_0 (fun _ => rfl) ?_
  refine x_A k105_1 (fun _ => rfl) ?_
  refine x_bipush k105_2 (by decide +kernel) ?_
  refine x_callS k105_4 (y := 121) (n := 3) (w0 := 0) (w1 := 3) (as := [vi a, vi 0, vi 9]) (rest := []) (by decide +kernel) rfl rfl rfl rfl (xe_mono (C_X10_isWithin s0 hG0 a (by first | exact x_rb b_a rfl rfl | exact ⟨by omega, by omega⟩) 0 ⟨by decide, by decide⟩ 9 ⟨by decide, by decide⟩) ?_)
  rintro s3 v ⟨h_s3, z2, rfl, hz_z2⟩
  rw [h_s3]
  rcases hz_z2 with ⟨c_z2, e_z2⟩ | ⟨c_z2, e_z2⟩
  · rw [e_z2]
    show xe none 105 7 [(0, .ref 0), (1, vi a)] [vi 1] s0 0 0 _
    refine x_if_ne k105_7 (t := 14) rfl ⟨by decide, by decide⟩ (fun c4 => ?_) (fun c4 => by exfalso; omega)
    refine x_A k105_14 (fun _ => rfl) ?_
    refine x_getR k105_15 (f := 4) rfl (q := 0) (n := 12) (kd := 3) ⟨by decide, rfl⟩ (q2 := 179) (by decide) rfl ?_
    refine x_getI k105_18 (f := 5) rfl (q := 179) (n := 6) (kd := 8) ⟨by decide, rfl⟩ (by decide) rfl ?_
    refine x_rw (e_z1.symm) ?_
    refine x_bipush k105_21 (by decide +kernel) ?_
    refine x_ic_lt k105_23 (t := 30) rfl (by first | exact x_rbe e_z1 g_z1 rfl rfl | exact x_rb g_z1 rfl rfl | exact ⟨by omega, by omega⟩) ⟨by decide, by decide⟩ (fun c5 => ?_) (fun c5 => ?_)
    · skip
      refine x_A k105_30 (fun _ => rfl) ?_
      refine x_getR k105_31 (f := 9) rfl (q := 0) (n := 12) (kd := 3) ⟨by decide, rfl⟩ (q2 := 243) (by decide) rfl ?_
      refine x_callV k105_34 (y := 73) (n := 0) (w0 := 0) (w1 := 0) (as := []) (rest := []) (by decide +kernel) (q := 243) (nq := 13) (kq := 13) ⟨by decide, rfl⟩ rfl rfl rfl rfl (xe_mono (C_X8_forget_243 s0 hG0) ?_)
      rintro s7 v ⟨hG_s7, t_s7, rfl⟩
      have f_s7 : FL [1219, 1220, 1221, 1222, 1223, 1600, 1728, 1856, 1408, 1472, 1350, 3276, 3277, 12, 1218] s0 s7 := f0.tr t_s7 (by decide +kernel)
      have q8 : s7 179 5 = z1 := (t_s7 179 5 (show 1350 ∉ [3276, 3277] from by decide +kernel)).trans e_z1.symm
      have J_s7 : J s7 := J.fl i0_J t_s7 (by decide +kernel)
      show xe none 105 37 [(0, .ref 0), (1, vi a)] [] s7 0 0 _
      refine x_A k105_37 (fun _ => rfl) ?_
      refine x_getR k105_38 (f := 4) rfl (q := 0) (n := 12) (kd := 3) ⟨by decide, rfl⟩ (q2 := 179) (by decide) rfl ?_
      refine x_getI k105_41 (f := 5) rfl (q := 179) (n := 6) (kd := 8) ⟨by decide, rfl⟩ (by decide) rfl ?_
      refine x_rw (q8) ?_
      refine x_istore_n k105_44 (ls' := [(2, vi z1), (0, .ref 0), (1, vi a)]) (by decide) rfl ?_
      refine x_A k105_45 (fun _ => rfl) ?_
      refine x_getR k105_46 (f := 4) rfl (q := 0) (n := 12) (kd := 3) ⟨by decide, rfl⟩ (q2 := 179) (by decide) rfl ?_
      refine x_A k105_49 (fun _ => rfl) ?_
      refine x_getR k105_50 (f := 3) rfl (q := 0) (n := 12) (kd := 3) ⟨by decide, rfl⟩ (q2 := 177) (by decide) rfl ?_
      refine x_A k105_53 (fun _ => rfl) ?_
      refine x_callV k105_54 (y := 35) (n := 2) (w0 := 0) (w1 := 2) (as := [.ref 177, vi a]) (rest := []) (by decide +kernel) (q := 179) (nq := 6) (kq := 8) ⟨by decide, rfl⟩ rfl rfl rfl rfl (xe_mono (E_X4_read_179_177 s7 hG_s7 a (by first | exact x_rb b_a rfl rfl | exact ⟨by omega, by omega⟩) ⟨by omega, by omega⟩ J_s7) ?_)
      rintro s10 v ⟨hG_s10, t_s10, rfl, xp_z9, J_s10⟩
      have f_s10 : FL [1219, 1220, 1221, 1222, 1223, 1600, 1728, 1856, 1408, 1472, 1350, 3276, 3277, 12, 1218] s0 s10 := f_s7.tr t_s10 (by decide +kernel)
      obtain ⟨z11, e_z11⟩ : ∃ z, z = s10 177 5 := ⟨_, rfl⟩
      have g_z11 : (0 : Int) ≤ s10 177 5 ∧ s10 177 5 ≤ 5 := hG_s10 177 5
      obtain ⟨z12, e_z12⟩ : ∃ z, z = s10 177 6 := ⟨_, rfl⟩
      have g_z12 : (-2147483648) ≤ s10 177 6 ∧ s10 177 6 ≤ 2147483647 := hG_s10 177 6
      show xe none 105 57 [(2, vi z1), (0, .ref 0), (1, vi a)] [] s10 0 0 _
      refine x_A k105_57 (fun _ => rfl) ?_
      refine x_A k105_58 (fun _ => rfl) ?_
      refine x_callV k105_59 (y := 128) (n := 1) (w0 := 0) (w1 := 1) (as := [vi z1]) (rest := []) (by decide +kernel) (q := 0) (nq := 12) (kq := 3) ⟨by decide, rfl⟩ rfl rfl rfl rfl (xe_mono (E_X10_afterReading_0 s10 hG_s10 z1 (by first | exact x_rbe e_z1 g_z1 rfl rfl | exact x_rb g_z1 rfl rfl | exact ⟨by omega, by omega⟩)) ?_)
      rintro s14 v ⟨hG_s14, t_s14, z13, rfl, g_z13, xp_z13⟩
      have f_s14 : FL [1219, 1220, 1221, 1222, 1223, 1600, 1728, 1856, 1408, 1472, 1350, 3276, 3277, 12, 1218] s0 s14 := f_s10.tr t_s14 (by decide +kernel)
      have q15 : s14 177 5 = z11 := (t_s14 177 5 (show 1222 ∉ [12, 1218] from by decide +kernel)).trans e_z11.symm
      have q16 : s14 177 6 = z12 := (t_s14 177 6 (show 1223 ∉ [12, 1218] from by decide +kernel)).trans e_z12.symm
      have J_s14 : J s14 := J.fl J_s10 t_s14 (by decide +kernel)
      obtain ⟨z17, e_z17⟩ : ∃ z, z = s14 0 11 := ⟨_, rfl⟩
      have g_z17 : (-2147483648) ≤ s14 0 11 ∧ s14 0 11 ≤ 2147483647 := hG_s14 0 11
      obtain ⟨z18, e_z18⟩ : ∃ z, z = s14 177 1 := ⟨_, rfl⟩
      have g_z18 : (0 : Int) ≤ s14 177 1 ∧ s14 177 1 ≤ 160 := hG_s14 177 1
      show xe none 105 62 [(2, vi z1), (0, .ref 0), (1, vi a)] [vi z13] s14 0 0 _
      exact x_iret k105_62 rfl ⟨hG_s14, f_s14, z13, rfl, (by first | exact x_rbe e_z13 g_z13 rfl rfl | exact x_rb g_z13 rfl rfl | exact ⟨by omega, by omega⟩), (by unfold RuC; exact Or.inr (Or.inr ⟨by omega, by omega, RdC.cg t_s7 (by decide) xp_z9 t_s14 (by decide) ⟨by omega, by omega⟩, by omega, by omega⟩)), J_s14⟩
    · skip
      refine x_sipush k105_26 (by decide +kernel) ?_
      obtain ⟨z19, e_z19⟩ : ∃ z, z = s0 177 1 := ⟨_, rfl⟩
      have g_z19 : (0 : Int) ≤ s0 177 1 ∧ s0 177 1 ≤ 160 := hG0 177 1
      obtain ⟨z20, e_z20⟩ : ∃ z, z = s0 177 5 := ⟨_, rfl⟩
      have g_z20 : (0 : Int) ≤ s0 177 5 ∧ s0 177 5 ≤ 5 := hG0 177 5
      obtain ⟨z21, e_z21⟩ : ∃ z, z = s0 177 6 := ⟨_, rfl⟩
      have g_z21 : (-2147483648) ≤ s0 177 6 ∧ s0 177 6 ≤ 2147483647 := hG0 177 6
      obtain ⟨z22, e_z22⟩ : ∃ z, z = s0 0 11 := ⟨_, rfl⟩
      have g_z22 : (-2147483648) ≤ s0 0 11 ∧ s0 0 11 ≤ 2147483647 := hG0 0 11
      exact x_iret k105_29 rfl ⟨hG0, f0, (-1004), rfl, ⟨by decide, by decide⟩, (by unfold RuC; exact Or.inr (Or.inl ⟨by omega, by omega, rfl, rfl⟩)), i0_J⟩
  · rw [e_z2]
    show xe none 105 7 [(0, .ref 0), (1, vi a)] [vi 0] s0 0 0 _
    refine x_if_ne k105_7 (t := 14) rfl ⟨by decide, by decide⟩ (fun c23 => by exfalso; omega) (fun c23 => ?_)
    refine x_sipush k105_10 (by decide +kernel) ?_
    obtain ⟨z24, e_z24⟩ : ∃ z, z = s0 177 1 := ⟨_, rfl⟩
    have g_z24 : (0 : Int) ≤ s0 177 1 ∧ s0 177 1 ≤ 160 := hG0 177 1
    obtain ⟨z25, e_z25⟩ : ∃ z, z = s0 177 5 := ⟨_, rfl⟩
    have g_z25 : (0 : Int) ≤ s0 177 5 ∧ s0 177 5 ≤ 5 := hG0 177 5
    obtain ⟨z26, e_z26⟩ : ∃ z, z = s0 177 6 := ⟨_, rfl⟩
    have g_z26 : (-2147483648) ≤ s0 177 6 ∧ s0 177 6 ≤ 2147483647 := hG0 177 6
    obtain ⟨z27, e_z27⟩ : ∃ z, z = s0 0 11 := ⟨_, rfl⟩
    have g_z27 : (-2147483648) ≤ s0 0 11 ∧ s0 0 11 ≤ 2147483647 := hG0 0 11
    exact x_iret k105_13 rfl ⟨hG0, f0, (-1002), rfl, ⟨by decide, by decide⟩, (by unfold RuC; exact Or.inl ⟨by omega, rfl, rfl⟩), i0_J⟩
set_option maxHeartbeats 8000000 in
theorem L_E_X11_here_256_0 (s0 : xS) (pa : s0 256 36 ≤ s0 256 34)  : ∀ (n : Nat) (s : xS) (x1000 : Int) (x1001 : Int) (hG : GI s) (f : FL [4133] s0 s) (b_x1000 : 0 ≤ x1000 ∧ x1000 ≤ 160) (b_x1001 : 0 ≤ x1001 ∧ x1001 ≤ 160) (w_0 : s0 256 36 ≤ x1000) (w_1 : s0 256 36 ≤ x1001 → x1000 ≤ x1001) (w_2 : x1001 = s0 256 34) (w_3 : 0 ≤ x1000 ∧ x1000 ≤ x1001) (w_4 : sk (s0 283) (s0 256 34) x1000 = sk (s0 283) (s0 256 34) (s0 256 36)) (e_x1000 : x1000 = s 256 36) (e_x1001 : x1001 = s 256 34)  (hm : (160 - x1000) < (n : Int)), xe none 176 0 [(0, .ref 256)] [] s 0 0 (fun s' v => GI s' ∧ FL [4133] s0 s' ∧ ∃ z, v = some (vi z) ∧ ((-1) ≤ z ∧ z ≤ 255) ∧ (s' 256 36 = sk (s0 283) (s0 256 34) (s0 256 36) ∧ z = ch (s0 283) (s0 256 34) (sk (s0 283) (s0 256 34) (s0 256 36)) ∧ ((0 ≤ z → s' 256 36 < s' 256 34) ∧ s0 256 36 ≤ s' 256 36 ∧ (s0 256 36 ≤ s' 256 34 → s' 256 36 ≤ s' 256 34)))) := by
  intro n
  induction n with
  | zero => intro s x1000 x1001 hG f b_x1000 b_x1001 w_0 w_1 w_2 w_3 w_4 e_x1000 e_x1001  hm; exfalso; omega
  | succ n ih =>
    intro s x1000 x1001 hG f b_x1000 b_x1001 w_0 w_1 w_2 w_3 w_4 e_x1000 e_x1001  hm
    refine x_A k176_0 (fun _ => rfl) ?_
    refine x_getI k176_1 (f := 36) rfl (q := 256) (n := 62) (kd := 15) ⟨by decide, rfl⟩ (by decide) rfl ?_
    refine x_rw (e_x1000.symm) ?_
    refine x_A k176_4 (fun _ => rfl) ?_
    refine x_getI k176_5 (f := 34) rfl (q := 256) (n := 62) (kd := 15) ⟨by decide, rfl⟩ (by decide) rfl ?_
    refine x_rw (e_x1001.symm) ?_
    refine x_ic_ge k176_8 (t := 38) rfl (by first | exact x_rb b_x1000 rfl rfl | exact ⟨by omega, by omega⟩) (by first | exact x_rb b_x1001 rfl rfl | exact ⟨by omega, by omega⟩) (fun c41 => ?_) (fun c41 => ?_)
    · skip
      refine x_A k176_38 (fun _ => rfl) ?_
      refine x_getI k176_39 (f := 36) rfl (q := 256) (n := 62) (kd := 15) ⟨by decide, rfl⟩ (by decide) rfl ?_
      refine x_rw (e_x1000.symm) ?_
      refine x_A k176_42 (fun _ => rfl) ?_
      refine x_getI k176_43 (f := 34) rfl (q := 256) (n := 62) (kd := 15) ⟨by decide, rfl⟩ (by decide) rfl ?_
      refine x_rw (e_x1001.symm) ?_
      refine x_ic_ge k176_46 (t := 61) rfl (by first | exact x_rb b_x1000 rfl rfl | exact ⟨by omega, by omega⟩) (by first | exact x_rb b_x1001 rfl rfl | exact ⟨by omega, by omega⟩) (fun c42 => ?_) (fun c42 => by exfalso; omega)
      refine x_A k176_61 (fun _ => rfl) ?_
      exact x_iret k176_62 rfl ⟨hG, f, (-1), rfl, ⟨by decide, by decide⟩, (by have hp := w_4.symm.trans (sk_n (by omega)); exact ⟨by omega, by rw [hp]; unfold ch; rw [if_neg (by omega)], by omega⟩)⟩
    · skip
      refine x_A k176_11 (fun _ => rfl) ?_
      refine x_getR k176_12 (f := 33) rfl (q := 256) (n := 62) (kd := 15) ⟨by decide, rfl⟩ (q2 := 283) (by decide) rfl ?_
      refine x_A k176_15 (fun _ => rfl) ?_
      refine x_getI k176_16 (f := 36) rfl (q := 256) (n := 62) (kd := 15) ⟨by decide, rfl⟩ (by decide) rfl ?_
      refine x_rw (e_x1000.symm) ?_
      refine x_iald k176_19 (q := 283) (n := 160) ⟨by decide, rfl⟩ (by decide) (by first | exact x_rbl b_x1000 rfl rfl | exact ⟨by omega, by omega⟩) ?_
      refine x_top (fun z43 e_z43 => ?_)
      have g_z43 : (0 : Int) ≤ s 283 x1000.toNat ∧ s 283 x1000.toNat ≤ 255 := hG 283 x1000.toNat
      have ht44 : z43 = s0 283 x1000.toNat := by rw [← (show s 283 = s0 283 from funext fun i => f 283 i (show 5824 ∉ [4133] from by decide +kernel))]; exact (e_z43.symm).symm
      refine x_bipush k176_20 (by decide +kernel) ?_
      refine x_ic_ne k176_22 (t := 38) rfl (by first | exact x_rbe e_z43 g_z43 rfl rfl | exact x_rb g_z43 rfl rfl | exact ⟨by omega, by omega⟩) ⟨by decide, by decide⟩ (fun c45 => ?_) (fun c45 => ?_)
      · skip
        refine x_A k176_38 (fun _ => rfl) ?_
        refine x_getI k176_39 (f := 36) rfl (q := 256) (n := 62) (kd := 15) ⟨by decide, rfl⟩ (by decide) rfl ?_
        refine x_rw (e_x1000.symm) ?_
        refine x_A k176_42 (fun _ => rfl) ?_
        refine x_getI k176_43 (f := 34) rfl (q := 256) (n := 62) (kd := 15) ⟨by decide, rfl⟩ (by decide) rfl ?_
        refine x_rw (e_x1001.symm) ?_
        refine x_ic_ge k176_46 (t := 61) rfl (by first | exact x_rb b_x1000 rfl rfl | exact ⟨by omega, by omega⟩) (by first | exact x_rb b_x1001 rfl rfl | exact ⟨by omega, by omega⟩) (fun c46 => by exfalso; omega) (fun c46 => ?_)
        refine x_A k176_49 (fun _ => rfl) ?_
        refine x_getR k176_50 (f := 33) rfl (q := 256) (n := 62) (kd := 15) ⟨by decide, rfl⟩ (q2 := 283) (by decide) rfl ?_
        refine x_A k176_53 (fun _ => rfl) ?_
        refine x_getI k176_54 (f := 36) rfl (q := 256) (n := 62) (kd := 15) ⟨by decide, rfl⟩ (by decide) rfl ?_
        refine x_rw (e_x1000.symm) ?_
        refine x_iald k176_57 (q := 283) (n := 160) ⟨by decide, rfl⟩ (by decide) (by first | exact x_rbl b_x1000 rfl rfl | exact ⟨by omega, by omega⟩) ?_
        refine x_rw (e_z43.symm) ?_
        have ht47 : z43 = s0 283 x1000.toNat := by rw [← (show s 283 = s0 283 from funext fun i => f 283 i (show 5824 ∉ [4133] from by decide +kernel))]; exact (e_z43.symm).symm
        refine x_goto k176_58 (t := 62) rfl ?_
        exact x_iret k176_62 rfl ⟨hG, f, z43, rfl, (by first | exact x_rbe e_z43 g_z43 rfl rfl | exact x_rb g_z43 rfl rfl | exact ⟨by omega, by omega⟩), (by have hp := w_4.symm.trans (sk_n (by omega)); exact ⟨by omega, by rw [hp]; unfold ch; rw [if_pos (by omega)]; omega, by omega⟩)⟩
      · skip
        refine x_A k176_25 (fun _ => rfl) ?_
        refine x_A k176_26 (fun _ => rfl) ?_
        refine x_getI k176_27 (f := 36) rfl (q := 256) (n := 62) (kd := 15) ⟨by decide, rfl⟩ (by decide) rfl ?_
        refine x_rw (e_x1000.symm) ?_
        refine x_A k176_30 (fun _ => rfl) ?_
        refine x_iadd k176_31 ?_
        refine x_top (fun z48 e_z48 => ?_)
        refine x_putI k176_32 (f := 36) rfl (q := 256) (n := 62) (kd := 15) ⟨by decide, rfl⟩ rfl rfl rfl ?_
        refine x_nh (fun s49 e_s49 => ?_)
        have hG_s49 : GI s49 := by rw [e_s49]; exact hG.up (show 0 ≤ z48 ∧ z48 ≤ 160 from (by first | exact x_rbe e_z48 g_z48 rfl rfl | exact x_rb g_z48 rfl rfl | exact ⟨by omega, by omega⟩))
        have f_s49 : FL [4133] s0 s49 := by rw [e_s49]; exact f.up (show 4133 ∈ [4133] from by decide +kernel)
        have q50 : s49 256 34 = x1001 := by rw [e_s49, x_up_i (by decide)]; exact e_x1001.symm
        have q51 : s49 256 36 = z48 := by rw [e_s49]; exact x_up_same
        have q52 : s49 283 x1000.toNat = z43 := by rw [e_s49, x_up_q (by first | decide | omega)]; exact e_z43.symm
        refine x_goto k176_35 (t := 0) rfl ?_
        refine x_ls (l := [(0, .ref 256)]) (show ([0] : List Nat).Nodup from by decide +kernel) ⟨rfl, trivial⟩ ?_
        exact ih s49 z48 x1001 hG_s49 f_s49 (by first | exact x_rbe e_z48 g_z48 rfl rfl | exact x_rb g_z48 rfl rfl | exact ⟨by omega, by omega⟩) (by first | exact x_rb b_x1001 rfl rfl | exact ⟨by omega, by omega⟩) (by omega) (by omega) (by omega) (by omega) (by rw [show z48 = x1000 + 1 by omega]; exact (sk_y (by omega) (by omega)).symm.trans w_4) (q51).symm (q50).symm  (by omega)
set_option maxHeartbeats 8000000 in
theorem E_X11_here_256 (s0 : xS) (hG0 : GI s0) (pa : s0 256 36 ≤ s0 256 34) : xe none 176 0 (lv_args 0 [.ref 256]) [] s0 0 0 (fun s' v => GI s' ∧ FL [4133] s0 s' ∧ ∃ z, v = some (vi z) ∧ ((-1) ≤ z ∧ z ≤ 255) ∧ (s' 256 36 = sk (s0 283) (s0 256 34) (s0 256 36) ∧ z = ch (s0 283) (s0 256 34) (sk (s0 283) (s0 256 34) (s0 256 36)) ∧ ((0 ≤ z → s' 256 36 < s' 256 34) ∧ s0 256 36 ≤ s' 256 36 ∧ (s0 256 36 ≤ s' 256 34 → s' 256 36 ≤ s' 256 34)))) := by
  have f0 : FL [4133] s0 s0 := FL.rf
  show xe none 176 0 [(0, .ref 256)] [] s0 0 0 _
  obtain ⟨z53, e_z53⟩ : ∃ z, z = s0 256 36 := ⟨_, rfl⟩
  have g_z53 : (0 : Int) ≤ s0 256 36 ∧ s0 256 36 ≤ 160 := hG0 256 36
  obtain ⟨z54, e_z54⟩ : ∃ z, z = s0 256 34 := ⟨_, rfl⟩
  have g_z54 : (0 : Int) ≤ s0 256 34 ∧ s0 256 34 ≤ 160 := hG0 256 34
  refine x_ls (l := [(0, .ref 256)]) (show ([0] : List Nat).Nodup from by decide +kernel) ⟨rfl, trivial⟩ ?_
  exact L_E_X11_here_256_0 s0 pa  (((160 - z53) + 1 : Int)).toNat s0 z53 z54 hG0 f0 (by first | exact x_rbe e_z53 g_z53 rfl rfl | exact x_rb g_z53 rfl rfl | exact ⟨by omega, by omega⟩) (by first | exact x_rbe e_z54 g_z54 rfl rfl | exact x_rb g_z54 rfl rfl | exact ⟨by omega, by omega⟩) (by omega) (by omega) (by omega) (by omega) (by rw [show z53 = s0 256 36 by omega]) (e_z53.symm).symm (e_z54.symm).symm  (by omega)
set_option maxHeartbeats 8000000 in
theorem E_X11_fails_256 (s0 : xS) (hG0 : GI s0) (a : Int) (b_a : (-2147483648) ≤ a ∧ a ≤ 2147483647) (b : Int) (b_b : (-2147483648) ≤ b ∧ b ≤ 2147483647) : xe none 177 0 (lv_args 0 [.ref 256, vi a, vi b]) [] s0 0 0 (fun s' v => GI s' ∧ FL [4132] s0 s' ∧ ∃ z, v = some (vi z) ∧ ((-2147483648) ≤ z ∧ z ≤ 2147483647) ∧ (z = a ∧ s' 256 35 = b)) := by
  have f0 : FL [4132] s0 s0 := FL.rf
  show xe none 177 0 [(0, .ref 256), (1, vi a), (2, vi b)] [] s0 0 0 _
  refine x_A k177_0 (fun _ => rfl) ?_
  refine x_A k177_1 (fun _ => rfl) ?_
  refine x_putI k177_2 (f := 35) rfl (q := 256) (n := 62) (kd := 15) ⟨by decide, rfl⟩ rfl rfl rfl ?_
  refine x_nh (fun s1 e_s1 => ?_)
  have hG_s1 : GI s1 := by rw [e_s1]; exact hG0.up (show (-2147483648) ≤ b ∧ b ≤ 2147483647 from (by first | exact x_rb b_b rfl rfl | exact ⟨by omega, by omega⟩))
  have f_s1 : FL [4132] s0 s1 := by rw [e_s1]; exact f0.up (show 4132 ∈ [4132] from by decide +kernel)
  have q2 : s1 256 35 = b := by rw [e_s1]; exact x_up_same
  refine x_A k177_5 (fun _ => rfl) ?_
  exact x_iret k177_6 rfl ⟨hG_s1, f_s1, a, rfl, (by first | exact x_rb b_a rfl rfl | exact ⟨by omega, by omega⟩), by omega⟩
