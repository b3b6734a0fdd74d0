set_option maxHeartbeats 8000000 in
theorem L_E_X11_findRules_256_36 (s0 : xS) (hJ0 : J s0) (a : Int) (b_a : 0 ≤ a ∧ a ≤ 9) (pR : R1 s0) (n_7 : Nat) (ih_7 : ∀ (s : xS) (x1 : Int) (x2 : Int) (x1000 : Int) (hG : GI s) (f : FL [5312, 5376, 4123] s0 s) (b_x1 : 0 ≤ x1 ∧ x1 ≤ 9) (b_x2 : (-1) ≤ x2 ∧ x2 ≤ 7) (b_x1000 : 0 ≤ x1000 ∧ x1000 ≤ 8) (r_2_1000 : x2 ≤ x1000 + 0) (w_0 : x1 = a) (w_1 : x1000 = s0 256 17 ∧ x1000 ≤ 8) (w_2 : FrI s s0 a x2) (w_3 : x2 < x1000) (e_x1000 : x1000 = s 256 17) (hm : (x2 - (-1)) < (n_7 : Int)), xe none 160 7 [(0, .ref 256), (1, vi x1), (2, vi x2)] [] s 0 0 (fun s' v => GI s' ∧ FL [5312, 5376, 4123] s0 s' ∧ v = none ∧ (FrZ s' s0 a))) : ∀ (n : Nat) (s : xS) (x1 : Int) (x2 : Int) (x3 : Int) (x1000 : Int) (hG : GI s) (f : FL [5312, 5376, 4123] s0 s) (b_x1 : 0 ≤ x1 ∧ x1 ≤ 9) (b_x2 : 0 ≤ x2 ∧ x2 ≤ 7) (b_x3 : 1 ≤ x3 ∧ x3 ≤ 8) (b_x1000 : 0 ≤ x1000 ∧ x1000 ≤ 8) (r_2_3 : x2 ≤ x3 + 0) (r_2_1000 : x2 ≤ x1000 + 0) (w_0 : x1 = a) (w_1 : x1000 = s0 256 17 ∧ x1000 ≤ 8) (w_2 : FrJ s s0 a x2 x3) (w_3 : x2 < x3 ∧ x3 ≤ x1000 ∧ x2 < x1000) (e_x1000 : x1000 = s 256 17) (k_7 : (x2 - (-1)) < (n_7 : Int) + 1) (hm : (8 - x3) < (n : Int)), xe none 160 36 [(0, .ref 256), (1, vi x1), (2, vi x2), (3, vi x3)] [] s 0 0 (fun s' v => GI s' ∧ FL [5312, 5376, 4123] s0 s' ∧ v = none ∧ (FrZ s' s0 a)) := by
  intro n
  induction n with
  | zero => intro s x1 x2 x3 x1000 hG f b_x1 b_x2 b_x3 b_x1000 r_2_3 r_2_1000 w_0 w_1 w_2 w_3 e_x1000 k_7 hm; exfalso; omega
  | succ n ih =>
    intro s x1 x2 x3 x1000 hG f b_x1 b_x2 b_x3 b_x1000 r_2_3 r_2_1000 w_0 w_1 w_2 w_3 e_x1000 k_7 hm
    refine x_A k160_36 (fun _ => rfl) ?_
    refine x_A k160_37 (fun _ => rfl) ?_
    refine x_getI k160_38 (f := 17) rfl (q := 256) (n := 62) (kd := 15) ⟨by decide, rfl⟩ (by decide) rfl ?_
    refine x_rw (e_x1000.symm) ?_
    refine x_ic_ge k160_41 (t := 88) rfl (by first | exact x_rb b_x3 rfl rfl | exact ⟨by omega, by omega⟩) (by first | exact x_rb b_x1000 rfl rfl | exact ⟨by omega, by omega⟩) (fun c1349 => ?_) (fun c1349 => ?_)
    · skip
      refine x_iinc k160_88 (ls' := [(2, vi (x2 + (-1))), (0, .ref 256), (1, vi x1), (3, vi x3)]) rfl (by decide) rfl ?_
      refine x_goto k160_91 (t := 7) rfl ?_
      refine x_ls (l := [(0, .ref 256), (1, vi x1), (2, vi (x2 + (-1)))]) (show ([0, 1, 2] : List Nat).Nodup from by decide +kernel) ⟨rfl, rfl, rfl, trivial⟩ ?_
      exact ih_7 s x1 (x2 + (-1)) x1000 hG f (by first | exact x_rb b_x1 rfl rfl | exact ⟨by omega, by omega⟩) ⟨by omega, by omega⟩ (by first | exact x_rb b_x1000 rfl rfl | exact ⟨by omega, by omega⟩) (by omega) (by omega) (by omega) (by rw [show x2 + (-1) = x2 - 1 by omega]; exact FrJ.out w_2 ⟨by omega, by omega⟩ (by omega)) (by omega) (e_x1000.symm).symm (by omega)
    · skip
      refine x_A k160_44 (fun _ => rfl) ?_
      refine x_getR k160_45 (f := 24) rfl (q := 256) (n := 62) (kd := 15) ⟨by decide, rfl⟩ (q2 := 275) (by decide) rfl ?_
      refine x_A k160_48 (fun _ => rfl) ?_
      refine x_A k160_49 (fun _ => rfl) ?_
      refine x_getR k160_50 (f := 24) rfl (q := 256) (n := 62) (kd := 15) ⟨by decide, rfl⟩ (q2 := 275) (by decide) rfl ?_
      refine x_A k160_53 (fun _ => rfl) ?_
      refine x_bald k160_54 (q := 275) (n := 8) ⟨by decide, rfl⟩ (by decide) (by first | exact x_rbl b_x2 rfl rfl | exact ⟨by omega, by omega⟩) ?_
      refine x_top (fun z1350 e_z1350 => ?_)
      have g_z1350 : (0 : Int) ≤ s 275 x2.toNat ∧ s 275 x2.toNat ≤ 1 := hG 275 x2.toNat
      refine x_if_eq k160_55 (t := 80) rfl (by first | exact x_rbe e_z1350 g_z1350 rfl rfl | exact x_rb g_z1350 rfl rfl | exact ⟨by omega, by omega⟩) (fun c1351 => ?_) (fun c1351 => ?_)
      · skip
        refine x_A k160_80 (fun _ => rfl) ?_
        refine x_bast k160_81 (q := 275) (n := 8) ⟨by decide, rfl⟩ (by decide) (by first | exact x_rbl b_x2 rfl rfl | exact ⟨by omega, by omega⟩) ⟨by omega, by omega⟩ ?_
        refine x_nh (fun s1352 e_s1352 => ?_)
        have hG_s1352 : GI s1352 := by rw [e_s1352]; exact hG.up (show 0 ≤ 0 ∧ 0 ≤ 1 from ⟨by decide, by decide⟩)
        have f_s1352 : FL [5312, 5376, 4123] s0 s1352 := by rw [e_s1352]; exact f.up (show 5312 ∈ [5312, 5376, 4123] from by decide +kernel)
        have q1353 : s1352 256 17 = x1000 := by rw [e_s1352, x_up_q (by decide)]; exact e_x1000.symm
        have q1354 : s1352 275 x2.toNat = 0 := by rw [e_s1352]; exact x_up_same
        refine x_iinc k160_82 (ls' := [(3, vi (x3 + 1)), (0, .ref 256), (1, vi x1), (2, vi x2)]) rfl (by decide) rfl ?_
        refine x_goto k160_85 (t := 36) rfl ?_
        refine x_ls (l := [(0, .ref 256), (1, vi x1), (2, vi x2), (3, vi (x3 + 1))]) (show ([0, 1, 2, 3] : List Nat).Nodup from by decide +kernel) ⟨rfl, rfl, rfl, rfl, trivial⟩ ?_
        exact ih s1352 x1 x2 (x3 + 1) x1000 hG_s1352 f_s1352 (by first | exact x_rb b_x1 rfl rfl | exact ⟨by omega, by omega⟩) (by first | exact x_rb b_x2 rfl rfl | exact ⟨by omega, by omega⟩) ⟨by omega, by omega⟩ (by first | exact x_rb b_x1000 rfl rfl | exact ⟨by omega, by omega⟩) (by omega) (by omega) (by omega) (by omega) (by rw [e_s1352]; exact FrJ.step w_2 ⟨by omega, by omega⟩ (by omega) (by omega) (Or.inl ⟨rfl, by omega⟩)) (by omega) (q1353).symm (by omega) (by omega)
      · skip
        refine x_A k160_58 (fun _ => rfl) ?_
        refine x_getR k160_59 (f := 24) rfl (q := 256) (n := 62) (kd := 15) ⟨by decide, rfl⟩ (q2 := 275) (by decide) rfl ?_
        refine x_A k160_62 (fun _ => rfl) ?_
        refine x_bald k160_63 (q := 275) (n := 8) ⟨by decide, rfl⟩ (by decide) (by first | exact x_rbl b_x3 rfl rfl | exact ⟨by omega, by omega⟩) ?_
        refine x_top (fun z1355 e_z1355 => ?_)
        have g_z1355 : (0 : Int) ≤ s 275 x3.toNat ∧ s 275 x3.toNat ≤ 1 := hG 275 x3.toNat
        refine x_if_eq k160_64 (t := 76) rfl (by first | exact x_rbe e_z1355 g_z1355 rfl rfl | exact x_rb g_z1355 rfl rfl | exact ⟨by omega, by omega⟩) (fun c1356 => ?_) (fun c1356 => ?_)
        · skip
          refine x_A k160_76 (fun _ => rfl) ?_
          refine x_goto k160_77 (t := 81) rfl ?_
          refine x_bast k160_81 (q := 275) (n := 8) ⟨by decide, rfl⟩ (by decide) (by first | exact x_rbl b_x2 rfl rfl | exact ⟨by omega, by omega⟩) ⟨by omega, by omega⟩ ?_
          refine x_nh (fun s1357 e_s1357 => ?_)
          have hG_s1357 : GI s1357 := by rw [e_s1357]; exact hG.up (show 0 ≤ 1 ∧ 1 ≤ 1 from ⟨by decide, by decide⟩)
          have f_s1357 : FL [5312, 5376, 4123] s0 s1357 := by rw [e_s1357]; exact f.up (show 5312 ∈ [5312, 5376, 4123] from by decide +kernel)
          have q1358 : s1357 256 17 = x1000 := by rw [e_s1357, x_up_q (by decide)]; exact e_x1000.symm
          have q1359 : s1357 275 x2.toNat = 1 := by rw [e_s1357]; exact x_up_same
          refine x_iinc k160_82 (ls' := [(3, vi (x3 + 1)), (0, .ref 256), (1, vi x1), (2, vi x2)]) rfl (by decide) rfl ?_
          refine x_goto k160_85 (t := 36) rfl ?_
          refine x_ls (l := [(0, .ref 256), (1, vi x1), (2, vi x2), (3, vi (x3 + 1))]) (show ([0, 1, 2, 3] : List Nat).Nodup from by decide +kernel) ⟨rfl, rfl, rfl, rfl, trivial⟩ ?_
          exact ih s1357 x1 x2 (x3 + 1) x1000 hG_s1357 f_s1357 (by first | exact x_rb b_x1 rfl rfl | exact ⟨by omega, by omega⟩) (by first | exact x_rb b_x2 rfl rfl | exact ⟨by omega, by omega⟩) ⟨by omega, by omega⟩ (by first | exact x_rb b_x1000 rfl rfl | exact ⟨by omega, by omega⟩) (by omega) (by omega) (by omega) (by omega) (by rw [e_s1357]; exact FrJ.step w_2 ⟨by omega, by omega⟩ (by omega) (by omega) (Or.inr (Or.inl ⟨rfl, by omega, by omega⟩))) (by omega) (q1358).symm (by omega) (by omega)
        · skip
          refine x_A k160_67 (fun _ => rfl) ?_
          refine x_A k160_68 (fun _ => rfl) ?_
          refine x_A k160_69 (fun _ => rfl) ?_
          refine x_callV k160_70 (y := 159) (n := 2) (w0 := 2) (w1 := 2) (as := [vi x3, vi x2]) (rest := [vi x2, .ref 275]) (by decide +kernel) (q := 256) (nq := 62) (kq := 15) ⟨by decide, rfl⟩ rfl rfl rfl rfl (xe_mono (E_X11_strikes_256 s hG x3 (by first | exact x_rb b_x3 rfl rfl | exact ⟨by omega, by omega⟩) x2 (by first | exact x_rb b_x2 rfl rfl | exact ⟨by omega, by omega⟩) (by omega) (pR.fl f (by decide +kernel))) ?_)
          rintro s1361 v ⟨-, t_s1361, z1360, rfl, g_z1360, xp_z1360⟩
          rw [t_s1361.nil]
          try rw [t_s1361.nil] at xp_z1360
          show xe none 160 73 [(0, .ref 256), (1, vi x1), (2, vi x2), (3, vi x3)] [vi z1360, vi x2, .ref 275] s 0 0 _
          refine x_if_ne k160_73 (t := 80) rfl (by first | exact x_rbe e_z1360 g_z1360 rfl rfl | exact x_rb g_z1360 rfl rfl | exact ⟨by omega, by omega⟩) (fun c1362 => ?_) (fun c1362 => ?_)
          · skip
            refine x_A k160_80 (fun _ => rfl) ?_
            refine x_bast k160_81 (q := 275) (n := 8) ⟨by decide, rfl⟩ (by decide) (by first | exact x_rbl b_x2 rfl rfl | exact ⟨by omega, by omega⟩) ⟨by omega, by omega⟩ ?_
            refine x_nh (fun s1363 e_s1363 => ?_)
            have hG_s1363 : GI s1363 := by rw [e_s1363]; exact hG.up (show 0 ≤ 0 ∧ 0 ≤ 1 from ⟨by decide, by decide⟩)
            have f_s1363 : FL [5312, 5376, 4123] s0 s1363 := by rw [e_s1363]; exact f.up (show 5312 ∈ [5312, 5376, 4123] from by decide +kernel)
            have q1364 : s1363 256 17 = x1000 := by rw [e_s1363, x_up_q (by decide)]; exact e_x1000.symm
            have q1365 : s1363 275 x2.toNat = 0 := by rw [e_s1363]; exact x_up_same
            refine x_iinc k160_82 (ls' := [(3, vi (x3 + 1)), (0, .ref 256), (1, vi x1), (2, vi x2)]) rfl (by decide) rfl ?_
            refine x_goto k160_85 (t := 36) rfl ?_
            refine x_ls (l := [(0, .ref 256), (1, vi x1), (2, vi x2), (3, vi (x3 + 1))]) (show ([0, 1, 2, 3] : List Nat).Nodup from by decide +kernel) ⟨rfl, rfl, rfl, rfl, trivial⟩ ?_
            exact ih s1363 x1 x2 (x3 + 1) x1000 hG_s1363 f_s1363 (by first | exact x_rb b_x1 rfl rfl | exact ⟨by omega, by omega⟩) (by first | exact x_rb b_x2 rfl rfl | exact ⟨by omega, by omega⟩) ⟨by omega, by omega⟩ (by first | exact x_rb b_x1000 rfl rfl | exact ⟨by omega, by omega⟩) (by omega) (by omega) (by omega) (by omega) (by rw [e_s1363]; exact FrJ.step w_2 ⟨by omega, by omega⟩ (by omega) (by omega) (Or.inr (Or.inr (Or.inr ⟨rfl, by omega, by omega, (SkR.cg (FL.rre f (by decide))).mp (xp_z1360.resolve_right (fun q => by omega)).2⟩)))) (by omega) (q1364).symm (by omega) (by omega)
          · skip
            refine x_A k160_76 (fun _ => rfl) ?_
            refine x_goto k160_77 (t := 81) rfl ?_
            refine x_bast k160_81 (q := 275) (n := 8) ⟨by decide, rfl⟩ (by decide) (by first | exact x_rbl b_x2 rfl rfl | exact ⟨by omega, by omega⟩) ⟨by omega, by omega⟩ ?_
            refine x_nh (fun s1366 e_s1366 => ?_)
            have hG_s1366 : GI s1366 := by rw [e_s1366]; exact hG.up (show 0 ≤ 1 ∧ 1 ≤ 1 from ⟨by decide, by decide⟩)
            have f_s1366 : FL [5312, 5376, 4123] s0 s1366 := by rw [e_s1366]; exact f.up (show 5312 ∈ [5312, 5376, 4123] from by decide +kernel)
            have q1367 : s1366 256 17 = x1000 := by rw [e_s1366, x_up_q (by decide)]; exact e_x1000.symm
            have q1368 : s1366 275 x2.toNat = 1 := by rw [e_s1366]; exact x_up_same
            refine x_iinc k160_82 (ls' := [(3, vi (x3 + 1)), (0, .ref 256), (1, vi x1), (2, vi x2)]) rfl (by decide) rfl ?_
            refine x_goto k160_85 (t := 36) rfl ?_
            refine x_ls (l := [(0, .ref 256), (1, vi x1), (2, vi x2), (3, vi (x3 + 1))]) (show ([0, 1, 2, 3] : List Nat).Nodup from by decide +kernel) ⟨rfl, rfl, rfl, rfl, trivial⟩ ?_
            exact ih s1366 x1 x2 (x3 + 1) x1000 hG_s1366 f_s1366 (by first | exact x_rb b_x1 rfl rfl | exact ⟨by omega, by omega⟩) (by first | exact x_rb b_x2 rfl rfl | exact ⟨by omega, by omega⟩) ⟨by omega, by omega⟩ (by first | exact x_rb b_x1000 rfl rfl | exact ⟨by omega, by omega⟩) (by omega) (by omega) (by omega) (by omega) (by rw [e_s1366]; exact FrJ.step w_2 ⟨by omega, by omega⟩ (by omega) (by omega) (Or.inr (Or.inr (Or.inl ⟨rfl, by omega, fun q => (xp_z1360.resolve_left (fun q => by omega)).2 ((SkR.cg (FL.rre f (by decide))).mpr q)⟩)))) (by omega) (q1367).symm (by omega) (by omega)
set_option maxHeartbeats 8000000 in
theorem L_E_X11_findRules_256_7 (s0 : xS) (hJ0 : J s0) (a : Int) (b_a : 0 ≤ a ∧ a ≤ 9) (pR : R1 s0)  : ∀ (n : Nat) (s : xS) (x1 : Int) (x2 : Int) (x1000 : Int) (hG : GI s) (f : FL [5312, 5376, 4123] s0 s) (b_x1 : 0 ≤ x1 ∧ x1 ≤ 9) (b_x2 : (-1) ≤ x2 ∧ x2 ≤ 7) (b_x1000 : 0 ≤ x1000 ∧ x1000 ≤ 8) (r_2_1000 : x2 ≤ x1000 + 0) (w_0 : x1 = a) (w_1 : x1000 = s0 256 17 ∧ x1000 ≤ 8) (w_2 : FrI s s0 a x2) (w_3 : x2 < x1000) (e_x1000 : x1000 = s 256 17)  (hm : (x2 - (-1)) < (n : Int)), xe none 160 7 [(0, .ref 256), (1, vi x1), (2, vi x2)] [] s 0 0 (fun s' v => GI s' ∧ FL [5312, 5376, 4123] s0 s' ∧ v = none ∧ (FrZ s' s0 a)) := by
  intro n
  induction n with
  | zero => intro s x1 x2 x1000 hG f b_x1 b_x2 b_x1000 r_2_1000 w_0 w_1 w_2 w_3 e_x1000  hm; exfalso; omega
  | succ n ih =>
    intro s x1 x2 x1000 hG f b_x1 b_x2 b_x1000 r_2_1000 w_0 w_1 w_2 w_3 e_x1000  hm
    refine x_A k160_7 (fun _ => rfl) ?_
    refine x_if_lt k160_8 (t := 94) rfl (by first | exact x_rb b_x2 rfl rfl | exact ⟨by omega, by omega⟩) (fun c1369 => ?_) (fun c1369 => ?_)
    · skip
      refine x_A k160_94 (fun _ => rfl) ?_
      refine x_istore_n k160_95 (ls' := [(2, vi 0), (0, .ref 256), (1, vi x1)]) (by decide) rfl ?_
      refine x_ls (l := [(0, .ref 256), (1, vi x1), (2, vi 0)]) (show ([0, 1, 2] : List Nat).Nodup from by decide +kernel) ⟨rfl, rfl, rfl, trivial⟩ ?_
      exact L_E_X11_findRules_256_96 s0 hJ0 a b_a pR  (((6 - 0) + 1 : Int)).toNat s x1 0 x1000 hG f (by first | exact x_rb b_x1 rfl rfl | exact ⟨by omega, by omega⟩) ⟨by decide, by decide⟩ (by first | exact x_rb b_x1000 rfl rfl | exact ⟨by omega, by omega⟩) (by omega) (by omega) (by have w := w_2; rw [show x2 = -1 by omega] at w; exact w) (fun k k0 k1 => by omega) (e_x1000.symm).symm  (by omega)
    · skip
      refine x_A k160_11 (fun _ => rfl) ?_
      refine x_getR k160_12 (f := 24) rfl (q := 256) (n := 62) (kd := 15) ⟨by decide, rfl⟩ (q2 := 275) (by decide) rfl ?_
      refine x_A k160_15 (fun _ => rfl) ?_
      refine x_A k160_16 (fun _ => rfl) ?_
      refine x_getR k160_17 (f := 18) rfl (q := 256) (n := 62) (kd := 15) ⟨by decide, rfl⟩ (q2 := 270) (by decide) rfl ?_
      refine x_A k160_20 (fun _ => rfl) ?_
      refine x_iald k160_21 (q := 270) (n := 8) ⟨by decide, rfl⟩ (by decide) (by first | exact x_rbl b_x2 rfl rfl | exact ⟨by omega, by omega⟩) ?_
      refine x_top (fun z1370 e_z1370 => ?_)
      have g_z1370 : (0 : Int) ≤ s 270 x2.toNat ∧ s 270 x2.toNat ≤ 9 := hG 270 x2.toNat
      refine x_A k160_22 (fun _ => rfl) ?_
      refine x_ic_gt k160_23 (t := 30) rfl (by first | exact x_rbe e_z1370 g_z1370 rfl rfl | exact x_rb g_z1370 rfl rfl | exact ⟨by omega, by omega⟩) (by first | exact x_rb b_x1 rfl rfl | exact ⟨by omega, by omega⟩) (fun c1371 => ?_) (fun c1371 => ?_)
      · skip
        refine x_A k160_30 (fun _ => rfl) ?_
        refine x_bast k160_31 (q := 275) (n := 8) ⟨by decide, rfl⟩ (by decide) (by first | exact x_rbl b_x2 rfl rfl | exact ⟨by omega, by omega⟩) ⟨by omega, by omega⟩ ?_
        refine x_nh (fun s1372 e_s1372 => ?_)
        have hG_s1372 : GI s1372 := by rw [e_s1372]; exact hG.up (show 0 ≤ 0 ∧ 0 ≤ 1 from ⟨by decide, by decide⟩)
        have f_s1372 : FL [5312, 5376, 4123] s0 s1372 := by rw [e_s1372]; exact f.up (show 5312 ∈ [5312, 5376, 4123] from by decide +kernel)
        have q1373 : s1372 256 17 = x1000 := by rw [e_s1372, x_up_q (by decide)]; exact e_x1000.symm
        have q1374 : s1372 270 x2.toNat = z1370 := by rw [e_s1372, x_up_q (by first | decide | omega)]; exact e_z1370.symm
        have q1375 : s1372 275 x2.toNat = 0 := by rw [e_s1372]; exact x_up_same
        refine x_A k160_32 (fun _ => rfl) ?_
        refine x_A k160_33 (fun _ => rfl) ?_
        refine x_iadd k160_34 ?_
        refine x_top (fun z1376 e_z1376 => ?_)
        refine x_istore_n k160_35 (ls' := [(3, vi z1376), (0, .ref 256), (1, vi x1), (2, vi x2)]) (by decide) rfl ?_
        refine x_ls (l := [(0, .ref 256), (1, vi x1), (2, vi x2), (3, vi z1376)]) (show ([0, 1, 2, 3] : List Nat).Nodup from by decide +kernel) ⟨rfl, rfl, rfl, rfl, trivial⟩ ?_
        exact L_E_X11_findRules_256_36 s0 hJ0 a b_a pR n (fun s x1 x2 x1000 hG f b_x1 b_x2 b_x1000 r_2_1000 w_0 w_1 w_2 w_3 e_x1000 hm => ih s x1 x2 x1000 hG f b_x1 b_x2 b_x1000 r_2_1000 w_0 w_1 w_2 w_3 e_x1000  hm) (((8 - z1376) + 1 : Int)).toNat s1372 x1 x2 z1376 x1000 hG_s1372 f_s1372 (by first | exact x_rb b_x1 rfl rfl | exact ⟨by omega, by omega⟩) (by first | exact x_rb b_x2 rfl rfl | exact ⟨by omega, by omega⟩) (by first | exact x_rbe e_z1376 g_z1376 rfl rfl | exact x_rb g_z1376 rfl rfl | exact ⟨by omega, by omega⟩) (by first | exact x_rb b_x1000 rfl rfl | exact ⟨by omega, by omega⟩) (by omega) (by omega) (by omega) (by omega) (by rw [e_s1372, show z1376 = x2 + 1 by omega]; exact FrI.go w_2 ⟨by omega, by omega⟩ (Or.inr ⟨rfl, by rw [← f_s1372 270 x2.toNat (show 4992 ∉ [5312, 5376, 4123] from by decide +kernel), q1374]; omega⟩)) (by omega) (q1373).symm (by omega) (by omega)
      · skip
        refine x_A k160_26 (fun _ => rfl) ?_
        refine x_goto k160_27 (t := 31) rfl ?_
        refine x_bast k160_31 (q := 275) (n := 8) ⟨by decide, rfl⟩ (by decide) (by first | exact x_rbl b_x2 rfl rfl | exact ⟨by omega, by omega⟩) ⟨by omega, by omega⟩ ?_
        refine x_nh (fun s1377 e_s1377 => ?_)
        have hG_s1377 : GI s1377 := by rw [e_s1377]; exact hG.up (show 0 ≤ 1 ∧ 1 ≤ 1 from ⟨by decide, by decide⟩)
        have f_s1377 : FL [5312, 5376, 4123] s0 s1377 := by rw [e_s1377]; exact f.up (show 5312 ∈ [5312, 5376, 4123] from by decide +kernel)
        have q1378 : s1377 256 17 = x1000 := by rw [e_s1377, x_up_q (by decide)]; exact e_x1000.symm
        have q1379 : s1377 270 x2.toNat = z1370 := by rw [e_s1377, x_up_q (by first | decide | omega)]; exact e_z1370.symm
        have q1380 : s1377 275 x2.toNat = 1 := by rw [e_s1377]; exact x_up_same
        refine x_A k160_32 (fun _ => rfl) ?_
        refine x_A k160_33 (fun _ => rfl) ?_
        refine x_iadd k160_34 ?_
        refine x_top (fun z1381 e_z1381 => ?_)
        refine x_istore_n k160_35 (ls' := [(3, vi z1381), (0, .ref 256), (1, vi x1), (2, vi x2)]) (by decide) rfl ?_
        refine x_ls (l := [(0, .ref 256), (1, vi x1), (2, vi x2), (3, vi z1381)]) (show ([0, 1, 2, 3] : List Nat).Nodup from by decide +kernel) ⟨rfl, rfl, rfl, rfl, trivial⟩ ?_
        exact L_E_X11_findRules_256_36 s0 hJ0 a b_a pR n (fun s x1 x2 x1000 hG f b_x1 b_x2 b_x1000 r_2_1000 w_0 w_1 w_2 w_3 e_x1000 hm => ih s x1 x2 x1000 hG f b_x1 b_x2 b_x1000 r_2_1000 w_0 w_1 w_2 w_3 e_x1000  hm) (((8 - z1381) + 1 : Int)).toNat s1377 x1 x2 z1381 x1000 hG_s1377 f_s1377 (by first | exact x_rb b_x1 rfl rfl | exact ⟨by omega, by omega⟩) (by first | exact x_rb b_x2 rfl rfl | exact ⟨by omega, by omega⟩) (by first | exact x_rbe e_z1381 g_z1381 rfl rfl | exact x_rb g_z1381 rfl rfl | exact ⟨by omega, by omega⟩) (by first | exact x_rb b_x1000 rfl rfl | exact ⟨by omega, by omega⟩) (by omega) (by omega) (by omega) (by omega) (by rw [e_s1377, show z1381 = x2 + 1 by omega]; exact FrI.go w_2 ⟨by omega, by omega⟩ (Or.inl ⟨rfl, by rw [← f_s1377 270 x2.toNat (show 4992 ∉ [5312, 5376, 4123] from by decide +kernel), q1379]; omega⟩)) (by omega) (q1378).symm (by omega) (by omega)
set_option maxHeartbeats 8000000 in
theorem E_X11_findRules_256 (s0 : xS) (hG0 : GI s0) (hJ0 : J s0) (a : Int) (b_a : 0 ≤ a ∧ a ≤ 9) (pR : R1 s0) : xe none 160 0 (lv_args 0 [.ref 256, vi a]) [] s0 0 0 (fun s' v => GI s' ∧ FL [5312, 5376, 4123] s0 s' ∧ v = none ∧ (FrZ s' s0 a)) := by
  have f0 : FL [5312, 5376, 4123] s0 s0 := FL.rf
  show xe none 160 0 [(0, .ref 256), (1, vi a)] [] s0 0 0 _
  have r8 := pR.1
  refine x_A k160_0 (fun _ => rfl) ?_
  refine x_getI k160_1 (f := 17) rfl (q := 256) (n := 62) (kd := 15) ⟨by decide, rfl⟩ (by decide) rfl ?_
  refine x_top (fun z1382 e_z1382 => ?_)
  have g_z1382 : (0 : Int) ≤ s0 256 17 ∧ s0 256 17 ≤ 8 := hG0 256 17
  refine x_A k160_4 (fun _ => rfl) ?_
  refine x_isub k160_5 ?_
  refine x_top (fun z1383 e_z1383 => ?_)
  refine x_istore_n k160_6 (ls' := [(2, vi z1383), (0, .ref 256), (1, vi a)]) (by decide) rfl ?_
  refine x_ls (l := [(0, .ref 256), (1, vi a), (2, vi z1383)]) (show ([0, 1, 2] : List Nat).Nodup from by decide +kernel) ⟨rfl, rfl, rfl, trivial⟩ ?_
  exact L_E_X11_findRules_256_7 s0 hJ0 a b_a pR  (((z1383 - (-1)) + 1 : Int)).toNat s0 a z1383 z1382 hG0 f0 (by first | exact x_rb b_a rfl rfl | exact ⟨by omega, by omega⟩) (by first | exact x_rbe e_z1383 g_z1383 rfl rfl | exact x_rb g_z1383 rfl rfl | exact ⟨by omega, by omega⟩) (by first | exact x_rbe e_z1382 g_z1382 rfl rfl | exact x_rb g_z1382 rfl rfl | exact ⟨by omega, by omega⟩) (by omega) (by omega) (by omega) (FrI_0 (by omega)) (by omega) (e_z1382.symm).symm  (by omega)
set_option maxHeartbeats 8000000 in
theorem L_E_X11_ruleOf_256_2 (s0 : xS) (hJ0 : J s0) (a : Int) (b_a : 0 ≤ a ∧ a ≤ 63) (pa : a < s0 256 20) (pR : R1 s0)  : ∀ (n : Nat) (s : xS) (x1 : Int) (x2 : Int) (x1000 : Int) (x1001 : Int) (hG : GI s) (f : FL [] s0 s) (b_x1 : 0 ≤ x1 ∧ x1 ≤ 63) (b_x2 : 0 ≤ x2 ∧ x2 ≤ 8) (b_x1000 : 0 ≤ x1000 ∧ x1000 ≤ 8) (b_x1001 : 0 ≤ x1001 ∧ x1001 ≤ 64) (w_0 : x2 < x1000) (w_1 : x1 < x1001) (w_2 : x1 = a ∧ x1000 = s0 256 17) (w_3 : s0 271 x2.toNat ≤ x1) (e_x1000 : x1000 = s 256 17) (e_x1001 : x1001 = s 256 20)  (hm : (10 - x2) < (n : Int)), xe none 161 2 [(0, .ref 256), (1, vi x1), (2, vi x2)] [] s 0 0 (fun s' v => GI s' ∧ FL [] s0 s' ∧ ∃ z, v = some (vi z) ∧ (0 ≤ z ∧ z ≤ 7) ∧ ((0 ≤ z ∧ z < s0 256 17) ∧ s0 271 z.toNat ≤ a ∧ a < s0 271 (z + 1).toNat)) := by
  intro n
  induction n with
  | zero => intro s x1 x2 x1000 x1001 hG f b_x1 b_x2 b_x1000 b_x1001 w_0 w_1 w_2 w_3 e_x1000 e_x1001  hm; exfalso; omega
  | succ n ih =>
    intro s x1 x2 x1000 x1001 hG f b_x1 b_x2 b_x1000 b_x1001 w_0 w_1 w_2 w_3 e_x1000 e_x1001  hm
    refine x_A k161_2 (fun _ => rfl) ?_
    refine x_A k161_3 (fun _ => rfl) ?_
    refine x_getR k161_4 (f := 19) rfl (q := 256) (n := 62) (kd := 15) ⟨by decide, rfl⟩ (q2 := 271) (by decide) rfl ?_
    refine x_A k161_7 (fun _ => rfl) ?_
    refine x_A k161_8 (fun _ => rfl) ?_
    refine x_iadd k161_9 ?_
    refine x_top (fun z44 e_z44 => ?_)
    refine x_iald k161_10 (q := 271) (n := 9) ⟨by decide, rfl⟩ (by decide) (by first | exact x_rbel e_z44 g_z44 rfl rfl | exact x_rbl g_z44 rfl rfl | exact ⟨by omega, by omega⟩) ?_
    refine x_top (fun z45 e_z45 => ?_)
    have g_z45 : (0 : Int) ≤ s 271 z44.toNat ∧ s 271 z44.toNat ≤ 64 := hG 271 z44.toNat
    have e271 : s0 271 (x2 + 1).toNat = z45 := by rw [← f 271 _ (show 5056 ∉ [] from by decide +kernel), show x2 + 1 = z44 by omega]; exact e_z45.symm
    refine x_ic_lt k161_11 (t := 20) rfl (by first | exact x_rb b_x1 rfl rfl | exact ⟨by omega, by omega⟩) (by first | exact x_rbe e_z45 g_z45 rfl rfl | exact x_rb g_z45 rfl rfl | exact ⟨by omega, by omega⟩) (fun c46 => ?_) (fun c46 => ?_)
    · skip
      refine x_A k161_20 (fun _ => rfl) ?_
      exact x_iret k161_21 rfl ⟨hG, f, x2, rfl, (by first | exact x_rb b_x2 rfl rfl | exact ⟨by omega, by omega⟩), ⟨⟨by omega, by omega⟩, by omega, by omega⟩⟩
    · skip
      have j_z45 := (hJ0.fl f (by decide +kernel)).rf z44 z45 (e_z45.symm).symm
      refine x_iinc k161_14 (ls' := [(2, vi (x2 + 1)), (0, .ref 256), (1, vi x1)]) rfl (by decide) rfl ?_
      refine x_goto k161_17 (t := 2) rfl ?_
      refine x_ls (l := [(0, .ref 256), (1, vi x1), (2, vi (x2 + 1))]) (show ([0, 1, 2] : List Nat).Nodup from by decide +kernel) ⟨rfl, rfl, rfl, trivial⟩ ?_
      exact ih s x1 (x2 + 1) x1000 x1001 hG f (by first | exact x_rb b_x1 rfl rfl | exact ⟨by omega, by omega⟩) ⟨by omega, by omega⟩ (by first | exact x_rb b_x1000 rfl rfl | exact ⟨by omega, by omega⟩) (by first | exact x_rb b_x1001 rfl rfl | exact ⟨by omega, by omega⟩) (by omega) (by omega) (by omega) (by omega) (e_x1000.symm).symm (e_x1001.symm).symm  (by omega)
set_option maxHeartbeats 8000000 in
theorem E_X11_ruleOf_256 (s0 : xS) (hG0 : GI s0) (hJ0 : J s0) (a : Int) (b_a : 0 ≤ a ∧ a ≤ 63) (pa : a < s0 256 20) (pR : R1 s0) : xe none 161 0 (lv_args 0 [.ref 256, vi a]) [] s0 0 0 (fun s' v => GI s' ∧ FL [] s0 s' ∧ ∃ z, v = some (vi z) ∧ (0 ≤ z ∧ z ≤ 7) ∧ ((0 ≤ z ∧ z < s0 256 17) ∧ s0 271 z.toNat ≤ a ∧ a < s0 271 (z + 1).toNat)) := by
  have f0 : FL [] s0 s0 := FL.rf
  show xe none 161 0 [(0, .ref 256), (1, vi a)] [] s0 0 0 _
  have jc := hJ0.cl
  refine x_A k161_0 (fun _ => rfl) ?_
  refine x_istore_n k161_1 (ls' := [(2, vi 0), (0, .ref 256), (1, vi a)]) (by decide) rfl ?_
  obtain ⟨z47, e_z47⟩ : ∃ z, z = s0 256 17 := ⟨_, rfl⟩
  have g_z47 : (0 : Int) ≤ s0 256 17 ∧ s0 256 17 ≤ 8 := hG0 256 17
  obtain ⟨z48, e_z48⟩ : ∃ z, z = s0 256 20 := ⟨_, rfl⟩
  have g_z48 : (0 : Int) ≤ s0 256 20 ∧ s0 256 20 ≤ 64 := hG0 256 20
  refine x_ls (l := [(0, .ref 256), (1, vi a), (2, vi 0)]) (show ([0, 1, 2] : List Nat).Nodup from by decide +kernel) ⟨rfl, rfl, rfl, trivial⟩ ?_
  exact L_E_X11_ruleOf_256_2 s0 hJ0 a b_a pa pR  (((10 - 0) + 1 : Int)).toNat s0 a 0 z47 z48 hG0 f0 (by first | exact x_rb b_a rfl rfl | exact ⟨by omega, by omega⟩) ⟨by decide, by decide⟩ (by first | exact x_rbe e_z47 g_z47 rfl rfl | exact x_rb g_z47 rfl rfl | exact ⟨by omega, by omega⟩) (by first | exact x_rbe e_z48 g_z48 rfl rfl | exact x_rb g_z48 rfl rfl | exact ⟨by omega, by omega⟩) (by omega) (by omega) (by omega) (by show s0 271 0 ≤ _; rw [pR.2.1]; omega) (e_z47.symm).symm (e_z48.symm).symm  (by omega)
set_option maxHeartbeats 8000000 in
theorem E_X11_holds_256 (s0 : xS) (hG0 : GI s0) (hJ0 : J s0) (a : Int) (b_a : 0 ≤ a ∧ a ≤ 63) (b : Int) (b_b : (-2147483648) ≤ b ∧ b ≤ 2147483647) (pa : a < s0 256 20) (pR : R1 s0) : xe none 162 0 (lv_args 0 [.ref 256, vi a, vi b]) [] s0 0 0 (fun s' v => GI s' ∧ FL [] s0 s' ∧ ∃ z, v = some (vi z) ∧ (0 ≤ z ∧ z ≤ 1) ∧ ((z = 1 ∧ HoR s0 a b) ∨ (z = 0 ∧ ¬ HoR s0 a b))) := by
  have f0 : FL [] s0 s0 := FL.rf
  show xe none 162 0 [(0, .ref 256), (1, vi a), (2, vi b)] [] s0 0 0 _
  refine x_A k162_0 (fun _ => rfl) ?_
  refine x_getR k162_1 (f := 21) rfl (q := 256) (n := 62) (kd := 15) ⟨by decide, rfl⟩ (q2 := 272) (by decide) rfl ?_
  refine x_A k162_4 (fun _ => rfl) ?_
  refine x_iald k162_5 (q := 272) (n := 72) ⟨by decide, rfl⟩ (by decide) (by first | exact x_rbl b_a rfl rfl | exact ⟨by omega, by omega⟩) ?_
  refine x_top (fun z1 e_z1 => ?_)
  have g_z1 : (0 : Int) ≤ s0 272 a.toNat ∧ s0 272 a.toNat ≤ 5 := hG0 272 a.toNat
  refine x_A k162_6 (fun _ => rfl) ?_
  refine x_ic_ne k162_7 (t := 27) rfl (by first | exact x_rbe e_z1 g_z1 rfl rfl | exact x_rb g_z1 rfl rfl | exact ⟨by omega, by omega⟩) (by first | exact x_rb b_b rfl rfl | exact ⟨by omega, by omega⟩) (fun c2 => ?_) (fun c2 => ?_)
  · skip
    refine x_A k162_27 (fun _ => rfl) ?_
    exact x_zret k162_28 rfl ⟨by omega, by omega⟩ ⟨hG0, f0, 0, rfl, ⟨by decide, by decide⟩, (Or.inr ⟨rfl, fun q => by have q1 := q.1; omega⟩)⟩
  · skip
    refine x_A k162_10 (fun _ => rfl) ?_
    refine x_getR k162_11 (f := 24) rfl (q := 256) (n := 62) (kd := 15) ⟨by decide, rfl⟩ (q2 := 275) (by decide) rfl ?_
    refine x_A k162_14 (fun _ => rfl) ?_
    refine x_A k162_15 (fun _ => rfl) ?_
    refine x_callV k162_16 (y := 161) (n := 1) (w0 := 1) (w1 := 1) (as := [vi a]) (rest := [.ref 275]) (by decide +kernel) (q := 256) (nq := 62) (kq := 15) ⟨by decide, rfl⟩ rfl rfl rfl rfl (xe_mono (E_X11_ruleOf_256 s0 hG0 (hJ0.fl f0 (by decide +kernel)) a (by first | exact x_rb b_a rfl rfl | exact ⟨by omega, by omega⟩) (by omega) (pR.fl f0 (by decide +kernel))) ?_)
    rintro s4 v ⟨-, t_s4, z3, rfl, g_z3, xp_z3⟩
    rw [t_s4.nil]
    try rw [t_s4.nil] at xp_z3
    show xe none 162 19 [(0, .ref 256), (1, vi a), (2, vi b)] [vi z3, .ref 275] s0 0 0 _
    refine x_bald k162_19 (q := 275) (n := 8) ⟨by decide, rfl⟩ (by decide) (by first | exact x_rbel e_z3 g_z3 rfl rfl | exact x_rbl g_z3 rfl rfl | exact ⟨by omega, by omega⟩) ?_
    refine x_top (fun z5 e_z5 => ?_)
    have g_z5 : (0 : Int) ≤ s0 275 z3.toNat ∧ s0 275 z3.toNat ≤ 1 := hG0 275 z3.toNat
    refine x_if_eq k162_20 (t := 27) rfl (by first | exact x_rbe e_z5 g_z5 rfl rfl | exact x_rb g_z5 rfl rfl | exact ⟨by omega, by omega⟩) (fun c6 => ?_) (fun c6 => ?_)
    · skip
      refine x_A k162_27 (fun _ => rfl) ?_
      exact x_zret k162_28 rfl ⟨by omega, by omega⟩ ⟨hG0, f0, 0, rfl, ⟨by decide, by decide⟩, (Or.inr ⟨rfl, fun ⟨_, r, h1, h2⟩ => by have e := pR.uniq (fun i => (show (0 : Int) ≤ s0 181 i ∧ s0 181 i ≤ 9 from hG0 181 i).1) xp_z3 h1; rw [← e] at h2; omega⟩)⟩
    · skip
      refine x_A k162_23 (fun _ => rfl) ?_
      refine x_goto k162_24 (t := 28) rfl ?_
      exact x_zret k162_28 rfl ⟨by omega, by omega⟩ ⟨hG0, f0, 1, rfl, ⟨by decide, by decide⟩, (Or.inl ⟨rfl, by omega, z3, xp_z3, by omega⟩)⟩
set_option maxHeartbeats 8000000 in
theorem L_E_X11_force_256_64 (s0 : xS) (hJ0 : J s0) (a : Int) (b_a : (-2147483648) ≤ a ∧ a ≤ 2147483647) (b : Int) (b_b : (-2147483648) ≤ b ∧ b ≤ 2147483647) (pR : R1 s0)  : ∀ (n : Nat) (s : xS) (x1 : Int) (x2 : Int) (x3 : Int) (x4 : Int) (x1000 : Int) (hG : GI s) (f : FL [5312, 5376, 4123] s0 s) (b_x1 : 0 ≤ x1 ∧ x1 ≤ 9) (b_x2 : 7 ≤ x2 ∧ x2 ≤ 9) (b_x3 : 0 ≤ x3 ∧ x3 ≤ 99) (b_x4 : 0 ≤ x4 ∧ x4 ≤ 64) (b_x1000 : 0 ≤ x1000 ∧ x1000 ≤ 64) (r_3_4 : x3 ≤ x4 + 0) (r_4_1000 : x4 ≤ x1000 + 0) (w_0 : x1 = a ∧ x2 = b ∧ 0 ≤ a ∧ a ≤ 9 ∧ 7 ≤ b ∧ b ≤ 9) (w_1 : x1000 = s0 256 20 ∧ x1000 ≤ 64 ∧ x4 ≤ x1000) (w_2 : FrZ s s0 a) (w_3 : x3 = ctp (fun c => s0 272 c = b - 6 ∧ ∃ r : Int, ((0 ≤ r ∧ r < s0 256 17) ∧ s0 271 r.toNat ≤ c ∧ (c : Int) < s0 271 (r + 1).toNat) ∧ CnR s0 a r) x4.toNat) (e_x1000 : x1000 = s 256 20)  (hm : (64 - x4) < (n : Int)), xe none 189 64 [(0, .ref 256), (1, vi x1), (2, vi x2), (3, vi x3), (4, vi x4)] [] s 0 0 (fun s' v => GI s' ∧ FL [5312, 5376, 4123] s0 s' ∧ ∃ z, v = some (vi z) ∧ ((-2147483648) ≤ z ∧ z ≤ 2147483647) ∧ (FzR s0 a b z)) := by
  intro n
  induction n with
  | zero => intro s x1 x2 x3 x4 x1000 hG f b_x1 b_x2 b_x3 b_x4 b_x1000 r_3_4 r_4_1000 w_0 w_1 w_2 w_3 e_x1000  hm; exfalso; omega
  | succ n ih =>
    intro s x1 x2 x3 x4 x1000 hG f b_x1 b_x2 b_x3 b_x4 b_x1000 r_3_4 r_4_1000 w_0 w_1 w_2 w_3 e_x1000  hm
    refine x_A k189_64 (fun _ => rfl) ?_
    refine x_A k189_66 (fun _ => rfl) ?_
    refine x_getI k189_67 (f := 20) rfl (q := 256) (n := 62) (kd := 15) ⟨by decide, rfl⟩ (by decide) rfl ?_
    refine x_rw (e_x1000.symm) ?_
    refine x_ic_ge k189_70 (t := 100) rfl (by first | exact x_rb b_x4 rfl rfl | exact ⟨by omega, by omega⟩) (by first | exact x_rb b_x1000 rfl rfl | exact ⟨by omega, by omega⟩) (fun c376 => ?_) (fun c376 => ?_)
    · skip
      refine x_A k189_100 (fun _ => rfl) ?_
      exact x_iret k189_101 rfl ⟨hG, f, x3, rfl, (by first | exact x_rb b_x3 rfl rfl | exact ⟨by omega, by omega⟩), (Or.inr (Or.inr ⟨by omega, by omega, by rw [← show x4 = s0 256 20 by omega]; exact w_3⟩))⟩
    · skip
      refine x_A k189_73 (fun _ => rfl) ?_
      refine x_A k189_74 (fun _ => rfl) ?_
      refine x_A k189_75 (fun _ => rfl) ?_
      refine x_A k189_77 (fun _ => rfl) ?_
      refine x_bipush k189_78 (by decide +kernel) ?_
      refine x_isub k189_80 ?_
      refine x_top (fun z377 e_z377 => ?_)
      refine x_callV k189_81 (y := 162) (n := 2) (w0 := 1) (w1 := 2) (as := [vi x4, vi z377]) (rest := [vi x3]) (by decide +kernel) (q := 256) (nq := 62) (kq := 15) ⟨by decide, rfl⟩ rfl rfl rfl rfl (xe_mono (E_X11_holds_256 s hG (hJ0.fl f (by decide +kernel)) x4 (by first | exact x_rb b_x4 rfl rfl | exact ⟨by omega, by omega⟩) z377 (by first | exact x_rbe e_z377 g_z377 rfl rfl | exact x_rb g_z377 rfl rfl | exact ⟨by omega, by omega⟩) (by omega) (pR.fl f (by decide +kernel))) ?_)
      rintro s379 v ⟨-, t_s379, z378, rfl, g_z378, xp_z378⟩
      rw [t_s379.nil]
      try rw [t_s379.nil] at xp_z378
      show xe none 189 84 [(0, .ref 256), (1, vi x1), (2, vi x2), (3, vi x3), (4, vi x4)] [vi z378, vi x3] s 0 0 _
      have hz : (z378 = 1 ∧ (fun c => s0 272 c = b - 6 ∧ ∃ r : Int, ((0 ≤ r ∧ r < s0 256 17) ∧ s0 271 r.toNat ≤ c ∧ (c : Int) < s0 271 (r + 1).toNat) ∧ CnR s0 a r) x4.toNat) ∨ (z378 = 0 ∧ ¬ (fun c => s0 272 c = b - 6 ∧ ∃ r : Int, ((0 ≤ r ∧ r < s0 256 17) ∧ s0 271 r.toNat ≤ c ∧ (c : Int) < s0 271 (r + 1).toNat) ∧ CnR s0 a r) x4.toNat) := by have q := xp_z378; rw [HoR.eq w_2 (FL.rre f (by decide)), show z377 = b - 6 by omega] at q; show (_ ∧ (_ ∧ ∃ r : Int, ((0 ≤ r ∧ r < s0 256 17) ∧ s0 271 r.toNat ≤ ((x4.toNat : Nat) : Int) ∧ ((x4.toNat : Nat) : Int) < s0 271 (r + 1).toNat) ∧ CnR s0 a r)) ∨ (_ ∧ ¬ (_ ∧ ∃ r : Int, ((0 ≤ r ∧ r < s0 256 17) ∧ s0 271 r.toNat ≤ ((x4.toNat : Nat) : Int) ∧ ((x4.toNat : Nat) : Int) < s0 271 (r + 1).toNat) ∧ CnR s0 a r)); rw [show ((x4.toNat : Nat) : Int) = x4 by omega]; exact q
      have cs := ctp_s (fun c => s0 272 c = b - 6 ∧ ∃ r : Int, ((0 ≤ r ∧ r < s0 256 17) ∧ s0 271 r.toNat ≤ c ∧ (c : Int) < s0 271 (r + 1).toNat) ∧ CnR s0 a r) (k := x4) (by omega)
      have cz : ctp (fun c => s0 272 c = b - 6 ∧ ∃ r : Int, ((0 ≤ r ∧ r < s0 256 17) ∧ s0 271 r.toNat ≤ c ∧ (c : Int) < s0 271 (r + 1).toNat) ∧ CnR s0 a r) (x4 + 1).toNat = ctp (fun c => s0 272 c = b - 6 ∧ ∃ r : Int, ((0 ≤ r ∧ r < s0 256 17) ∧ s0 271 r.toNat ≤ c ∧ (c : Int) < s0 271 (r + 1).toNat) ∧ CnR s0 a r) x4.toNat + z378 := hz.elim (fun q => by rw [cs.1 q.2, q.1]) (fun q => by rw [cs.2 q.2, q.1]; omega)
      refine x_if_eq k189_84 (t := 91) rfl (by first | exact x_rbe e_z378 g_z378 rfl rfl | exact x_rb g_z378 rfl rfl | exact ⟨by omega, by omega⟩) (fun c380 => ?_) (fun c380 => ?_)
      · skip
        refine x_A k189_91 (fun _ => rfl) ?_
        refine x_iadd k189_92 ?_
        refine x_top (fun z381 e_z381 => ?_)
        refine x_istore_n k189_93 (ls' := [(3, vi z381), (0, .ref 256), (1, vi x1), (2, vi x2), (4, vi x4)]) (by decide) rfl ?_
        refine x_iinc k189_94 (ls' := [(4, vi (x4 + 1)), (3, vi z381), (0, .ref 256), (1, vi x1), (2, vi x2)]) rfl (by decide) rfl ?_
        refine x_goto k189_97 (t := 64) rfl ?_
        refine x_ls (l := [(0, .ref 256), (1, vi x1), (2, vi x2), (3, vi z381), (4, vi (x4 + 1))]) (show ([0, 1, 2, 3, 4] : List Nat).Nodup from by decide +kernel) ⟨rfl, rfl, rfl, rfl, rfl, trivial⟩ ?_
        exact ih s x1 x2 z381 (x4 + 1) x1000 hG f (by first | exact x_rb b_x1 rfl rfl | exact ⟨by omega, by omega⟩) (by first | exact x_rb b_x2 rfl rfl | exact ⟨by omega, by omega⟩) (by first | exact x_rbe e_z381 g_z381 rfl rfl | exact x_rb g_z381 rfl rfl | exact ⟨by omega, by omega⟩) ⟨by omega, by omega⟩ (by first | exact x_rb b_x1000 rfl rfl | exact ⟨by omega, by omega⟩) (by omega) (by omega) (by omega) (by omega) w_2 (by omega) (e_x1000.symm).symm  (by omega)
      · skip
        refine x_A k189_87 (fun _ => rfl) ?_
        refine x_goto k189_88 (t := 92) rfl ?_
        refine x_iadd k189_92 ?_
        refine x_top (fun z382 e_z382 => ?_)
        refine x_istore_n k189_93 (ls' := [(3, vi z382), (0, .ref 256), (1, vi x1), (2, vi x2), (4, vi x4)]) (by decide) rfl ?_
        refine x_iinc k189_94 (ls' := [(4, vi (x4 + 1)), (3, vi z382), (0, .ref 256), (1, vi x1), (2, vi x2)]) rfl (by decide) rfl ?_
        refine x_goto k189_97 (t := 64) rfl ?_
        refine x_ls (l := [(0, .ref 256), (1, vi x1), (2, vi x2), (3, vi z382), (4, vi (x4 + 1))]) (show ([0, 1, 2, 3, 4] : List Nat).Nodup from by decide +kernel) ⟨rfl, rfl, rfl, rfl, rfl, trivial⟩ ?_
        exact ih s x1 x2 z382 (x4 + 1) x1000 hG f (by first | exact x_rb b_x1 rfl rfl | exact ⟨by omega, by omega⟩) (by first | exact x_rb b_x2 rfl rfl | exact ⟨by omega, by omega⟩) (by first | exact x_rbe e_z382 g_z382 rfl rfl | exact x_rb g_z382 rfl rfl | exact ⟨by omega, by omega⟩) ⟨by omega, by omega⟩ (by first | exact x_rb b_x1000 rfl rfl | exact ⟨by omega, by omega⟩) (by omega) (by omega) (by omega) (by omega) w_2 (by omega) (e_x1000.symm).symm  (by omega)
set_option maxHeartbeats 8000000 in
theorem E_X11_force_256 (s0 : xS) (hG0 : GI s0) (hJ0 : J s0) (a : Int) (b_a : (-2147483648) ≤ a ∧ a ≤ 2147483647) (b : Int) (b_b : (-2147483648) ≤ b ∧ b ≤ 2147483647) (pR : R1 s0) : xe none 189 0 (lv_args 0 [.ref 256, vi a, vi b]) [] s0 0 0 (fun s' v => GI s' ∧ FL [5312, 5376, 4123] s0 s' ∧ ∃ z, v = some (vi z) ∧ ((-2147483648) ≤ z ∧ z ≤ 2147483647) ∧ (FzR s0 a b z)) := by
  have f0 : FL [5312, 5376, 4123] s0 s0 := FL.rf
  show xe none 189 0 [(0, .ref 256), (1, vi a), (2, vi b)] [] s0 0 0 _
  refine x_A k189_0 (fun _ => rfl) ?_
  refine x_i2l k189_1 (by first | exact x_rb b_a rfl rfl | exact ⟨by omega, by omega⟩) ?_
  refine x_lconst k189_2 (z := 0) (by decide +kernel) ?_
  refine x_ldc2 k189_3 (z := 9) rfl (by decide +kernel) ?_
  refine x_callS k189_6 (y := 136) (n := 3) (w0 := 0) (w1 := 6) (as := [vj a, vj 0, vj 9]) (rest := []) (by decide +kernel) rfl rfl rfl rfl (xe_mono (C_X11_in s0 hG0 a ⟨by omega, by omega⟩ 0 ⟨by omega, by omega⟩ 9 ⟨by omega, by omega⟩) ?_)
  rintro s384 v ⟨h_s384, z383, rfl, hz_z383⟩
  rw [h_s384]
  rcases hz_z383 with ⟨c_z383, e_z383⟩ | ⟨c_z383, e_z383⟩
  · rw [e_z383]
    show xe none 189 9 [(0, .ref 256), (1, vi a), (2, vi b)] [vi 1] s0 0 0 _
    refine x_if_eq k189_9 (t := 24) rfl ⟨by decide, by decide⟩ (fun c385 => by exfalso; omega) (fun c385 => ?_)
    refine x_A k189_12 (fun _ => rfl) ?_
    refine x_i2l k189_13 (by first | exact x_rb b_b rfl rfl | exact ⟨by omega, by omega⟩) ?_
    refine x_lconst k189_14 (z := 0) (by decide +kernel) ?_
    refine x_ldc2 k189_15 (z := 9) rfl (by decide +kernel) ?_
    refine x_callS k189_18 (y := 136) (n := 3) (w0 := 0) (w1 := 6) (as := [vj b, vj 0, vj 9]) (rest := []) (by decide +kernel) rfl rfl rfl rfl (xe_mono (C_X11_in s0 hG0 b ⟨by omega, by omega⟩ 0 ⟨by omega, by omega⟩ 9 ⟨by omega, by omega⟩) ?_)
    rintro s387 v ⟨h_s387, z386, rfl, hz_z386⟩
    rw [h_s387]
    rcases hz_z386 with ⟨c_z386, e_z386⟩ | ⟨c_z386, e_z386⟩
    · rw [e_z386]
      show xe none 189 21 [(0, .ref 256), (1, vi a), (2, vi b)] [vi 1] s0 0 0 _
      refine x_if_ne k189_21 (t := 28) rfl ⟨by decide, by decide⟩ (fun c388 => ?_) (fun c388 => by exfalso; omega)
      refine x_A k189_28 (fun _ => rfl) ?_
      refine x_A k189_29 (fun _ => rfl) ?_
      refine x_callV k189_30 (y := 160) (n := 1) (w0 := 0) (w1 := 1) (as := [vi a]) (rest := []) (by decide +kernel) (q := 256) (nq := 62) (kq := 15) ⟨by decide, rfl⟩ rfl rfl rfl rfl (xe_mono (E_X11_findRules_256 s0 hG0 (hJ0.fl f0 (by decide +kernel)) a (by first | exact x_rb b_a rfl rfl | exact ⟨by omega, by omega⟩) (pR.fl f0 (by decide +kernel))) ?_)
      rintro s390 v ⟨hG_s390, t_s390, rfl, xp_z389⟩
      have f_s390 : FL [5312, 5376, 4123] s0 s390 := f0.tr t_s390 (by decide +kernel)
      show xe none 189 33 [(0, .ref 256), (1, vi a), (2, vi b)] [] s390 0 0 _
      have fz := xp_z389
      have e20_ : s390 256 20 = s0 256 20 := f_s390 256 20 (show 4117 ∉ [5312, 5376, 4123] from by decide +kernel)
      refine x_A k189_33 (fun _ => rfl) ?_
      refine x_bipush k189_34 (by decide +kernel) ?_
      refine x_ic_ge k189_36 (t := 59) rfl (by first | exact x_rb b_b rfl rfl | exact ⟨by omega, by omega⟩) ⟨by decide, by decide⟩ (fun c391 => ?_) (fun c391 => ?_)
      · skip
        refine x_A k189_59 (fun _ => rfl) ?_
        refine x_istore_n k189_60 (ls' := [(3, vi 0), (0, .ref 256), (1, vi a), (2, vi b)]) (by decide) rfl ?_
        refine x_A k189_61 (fun _ => rfl) ?_
        refine x_istore k189_62 (ls' := [(4, vi 0), (3, vi 0), (0, .ref 256), (1, vi a), (2, vi b)]) (by decide) rfl ?_
        obtain ⟨z392, e_z392⟩ : ∃ z, z = s390 256 20 := ⟨_, rfl⟩
        have g_z392 : (0 : Int) ≤ s390 256 20 ∧ s390 256 20 ≤ 64 := hG_s390 256 20
        refine x_ls (l := [(0, .ref 256), (1, vi a), (2, vi b), (3, vi 0), (4, vi 0)]) (show ([0, 1, 2, 3, 4] : List Nat).Nodup from by decide +kernel) ⟨rfl, rfl, rfl, rfl, rfl, trivial⟩ ?_
        exact L_E_X11_force_256_64 s0 hJ0 a b_a b b_b pR  (((64 - 0) + 1 : Int)).toNat s390 a b 0 0 z392 hG_s390 f_s390 (by first | exact x_rb b_a rfl rfl | exact ⟨by omega, by omega⟩) (by first | exact x_rb b_b rfl rfl | exact ⟨by omega, by omega⟩) ⟨by decide, by decide⟩ ⟨by decide, by decide⟩ (by first | exact x_rbe e_z392 g_z392 rfl rfl | exact x_rb g_z392 rfl rfl | exact ⟨by omega, by omega⟩) (by omega) (by omega) (by omega) (by omega) fz (show _ = _ from rfl) (e_z392.symm).symm  (by omega)
      · skip
        refine x_A k189_39 (fun _ => rfl) ?_
        refine x_if_ne k189_40 (t := 50) rfl (by first | exact x_rb b_b rfl rfl | exact ⟨by omega, by omega⟩) (fun c393 => ?_) (fun c393 => ?_)
        · skip
          refine x_A k189_50 (fun _ => rfl) ?_
          refine x_getR k189_51 (f := 25) rfl (q := 256) (n := 62) (kd := 15) ⟨by decide, rfl⟩ (q2 := 276) (by decide) rfl ?_
          refine x_A k189_54 (fun _ => rfl) ?_
          refine x_A k189_55 (fun _ => rfl) ?_
          refine x_isub k189_56 ?_
          refine x_top (fun z394 e_z394 => ?_)
          refine x_iald k189_57 (q := 276) (n := 6) ⟨by decide, rfl⟩ (by decide) (by first | exact x_rbel e_z394 g_z394 rfl rfl | exact x_rbl g_z394 rfl rfl | exact ⟨by omega, by omega⟩) ?_
          refine x_top (fun z395 e_z395 => ?_)
          have g_z395 : (-2147483648) ≤ s390 276 z394.toNat ∧ s390 276 z394.toNat ≤ 2147483647 := hG_s390 276 z394.toNat
          exact x_iret k189_58 rfl ⟨hG_s390, f_s390, z395, rfl, (by first | exact x_rbe e_z395 g_z395 rfl rfl | exact x_rb g_z395 rfl rfl | exact ⟨by omega, by omega⟩), (Or.inr (Or.inl ⟨by omega, by omega, by have q := fz.2.1 (b - 1) (by omega) (by omega); rw [show fx b = b - 1 from by unfold fx; rw [if_neg (by omega), if_pos (by omega)]]; rw [← q, show b - 1 = z394 by omega]; exact e_z395⟩))⟩
        · skip
          refine x_A k189_43 (fun _ => rfl) ?_
          refine x_getI k189_44 (f := 26) rfl (q := 256) (n := 62) (kd := 15) ⟨by decide, rfl⟩ (by decide) rfl ?_
          refine x_top (fun z396 e_z396 => ?_)
          have g_z396 : (-2147483648) ≤ s390 256 26 ∧ s390 256 26 ≤ 2147483647 := hG_s390 256 26
          refine x_goto k189_47 (t := 58) rfl ?_
          exact x_iret k189_58 rfl ⟨hG_s390, f_s390, z396, rfl, (by first | exact x_rbe e_z396 g_z396 rfl rfl | exact x_rb g_z396 rfl rfl | exact ⟨by omega, by omega⟩), (Or.inr (Or.inl ⟨by omega, by omega, by rw [show b = 0 by omega]; have q := fz.2.2; show _ = foFR s0 a (a + 1).toNat 6; omega⟩))⟩
    · rw [e_z386]
      show xe none 189 21 [(0, .ref 256), (1, vi a), (2, vi b)] [vi 0] s0 0 0 _
      refine x_if_ne k189_21 (t := 28) rfl ⟨by decide, by decide⟩ (fun c397 => by exfalso; omega) (fun c397 => ?_)
      refine x_sipush k189_24 (by decide +kernel) ?_
      exact x_iret k189_27 rfl ⟨hG0, f0, (-1002), rfl, ⟨by decide, by decide⟩, (Or.inl ⟨by omega, rfl⟩)⟩
  · rw [e_z383]
    show xe none 189 9 [(0, .ref 256), (1, vi a), (2, vi b)] [vi 0] s0 0 0 _
    refine x_if_eq k189_9 (t := 24) rfl ⟨by decide, by decide⟩ (fun c398 => ?_) (fun c398 => by exfalso; omega)
    refine x_sipush k189_24 (by decide +kernel) ?_
    exact x_iret k189_27 rfl ⟨hG0, f0, (-1002), rfl, ⟨by decide, by decide⟩, (Or.inl ⟨by omega, rfl⟩)⟩
