theorem L_C_X11_readNumber_256_42 (s0 : xS) (a : Int) (b_a : (-2147483648) ≤ a ∧ a ≤ 2147483647) (b : Int) (b_b : (-2147483648) ≤ b ∧ b ≤ 2147483647) (d : Int) (b_d : (-2147483648) ≤ d ∧ d ≤ 2147483647) (e : Int) (b_e : 1 ≤ e ∧ e ≤ 5)  : ∀ (n : Nat) (s : xS) (x1 : Int) (x2 : Int) (x3 : Int) (x4 : Int) (x5 : Int) (x6 : Int) (x1000 : Int) (x1001 : Int) (x1002 : Int) (hG : GI s) (f : FL [4133, 4136, 4132] s0 s) (b_x1 : (-2147483648) ≤ x1 ∧ x1 ≤ 2147483647) (b_x2 : (-2147483648) ≤ x2 ∧ x2 ≤ 2147483647) (b_x3 : (-2147483648) ≤ x3 ∧ x3 ≤ 2147483647) (b_x4 : 1 ≤ x4 ∧ x4 ≤ 5) (b_x5 : 48 ≤ x5 ∧ x5 ≤ 57) (b_x6 : 0 ≤ x6 ∧ x6 ≤ 160) (b_x1000 : 0 ≤ x1000 ∧ x1000 ≤ 160) (b_x1001 : 0 ≤ x1001 ∧ x1001 ≤ 160) (b_x1002 : 0 ≤ x1002 ∧ x1002 ≤ 2147483647) (r_6_1000 : x6 ≤ x1000 + 0) (r_4_5 : x4 ≤ x5 + 0) (w_0 : x1 = a) (w_1 : x2 = b) (w_2 : s0 256 36 ≤ x1000) (w_3 : s0 256 36 ≤ x1001 → x1000 ≤ x1001) (w_4 : x6 ≤ x1000) (w_5 : s0 256 36 ≤ x6) (e_x1000 : x1000 = s 256 36) (e_x1001 : x1001 = s 256 34) (e_x1002 : x1002 = s 256 39)  (hm : (160 - x1000) < (n : Int)), xe none 180 42 [(0, .ref 256), (1, vi x1), (2, vi x2), (3, vi x3), (4, vi x4), (5, vi x5), (6, vi x6)] [] s 0 0 (fun s' v => GI s' ∧ FL [4133, 4136, 4132] s0 s' ∧ ∃ z, v = some (vi z) ∧ (0 ≤ z ∧ z ≤ 5) ∧ ((z = 0 → a ≤ s' 256 39 ∧ s' 256 39 ≤ b) ∧ s0 256 36 ≤ s' 256 36 ∧ (s0 256 36 ≤ s' 256 34 → s' 256 36 ≤ s' 256 34))) := by
  intro n
  induction n with
  | zero => intro s x1 x2 x3 x4 x5 x6 x1000 x1001 x1002 hG f b_x1 b_x2 b_x3 b_x4 b_x5 b_x6 b_x1000 b_x1001 b_x1002 r_6_1000 r_4_5 w_0 w_1 w_2 w_3 w_4 w_5 e_x1000 e_x1001 e_x1002  hm; exfalso; omega
  | succ n ih =>
    intro s x1 x2 x3 x4 x5 x6 x1000 x1001 x1002 hG f b_x1 b_x2 b_x3 b_x4 b_x5 b_x6 b_x1000 b_x1001 b_x1002 r_6_1000 r_4_5 w_0 w_1 w_2 w_3 w_4 w_5 e_x1000 e_x1001 e_x1002  hm
    refine x_A k180_42 (fun _ => rfl) ?_
    refine x_getI k180_43 (f := 36) rfl (q := 256) (n := 62) (kd := 15) ⟨by decide, rfl⟩ (by decide) rfl ?_
    rw [e_x1000.symm]
    refine x_A k180_46 (fun _ => rfl) ?_
    refine x_getI k180_47 (f := 34) rfl (q := 256) (n := 62) (kd := 15) ⟨by decide, rfl⟩ (by decide) rfl ?_
    rw [e_x1001.symm]
    refine x_ic_ge k180_50 (t := 129) rfl ⟨by omega, by omega⟩ ⟨by omega, by omega⟩ (fun c438 => ?_) (fun c438 => ?_)
    · skip
      refine x_A k180_129 (fun _ => rfl) ?_
      refine x_getI k180_130 (f := 36) rfl (q := 256) (n := 62) (kd := 15) ⟨by decide, rfl⟩ (by decide) rfl ?_
      rw [e_x1000.symm]
      refine x_A k180_133 (fun _ => rfl) ?_
      refine x_isub k180_135 ?_
      refine x_top (fun z439 e_z439 => ?_)
      refine x_A k180_136 (fun _ => rfl) ?_
      refine x_ic_le k180_137 (t := 148) rfl ⟨by omega, by omega⟩ ⟨by omega, by omega⟩ (fun c440 => ?_) (fun c440 => ?_)
      · skip
        refine x_A k180_148 (fun _ => rfl) ?_
        refine x_getI k180_149 (f := 39) rfl (q := 256) (n := 62) (kd := 15) ⟨by decide, rfl⟩ (by decide) rfl ?_
        rw [e_x1002.symm]
        refine x_i2l k180_152 ⟨by omega, by omega⟩ ?_
        refine x_A k180_153 (fun _ => rfl) ?_
        refine x_i2l k180_154 ⟨by omega, by omega⟩ ?_
        refine x_A k180_155 (fun _ => rfl) ?_
        refine x_i2l k180_156 ⟨by omega, by omega⟩ ?_
        refine x_callS k180_157 (y := 136) (n := 3) (w0 := 0) (w1 := 6) (as := [vj x1002, vj x1, vj x2]) (rest := []) (by decide +kernel) rfl rfl rfl rfl (xe_mono (C_X11_in s hG x1002 ⟨by omega, by omega⟩ x1 ⟨by omega, by omega⟩ x2 ⟨by omega, by omega⟩) ?_)
        rintro s442 v ⟨h_s442, z441, rfl, hz_z441⟩
        rw [h_s442]
        rcases hz_z441 with ⟨c_z441, e_z441⟩ | ⟨c_z441, e_z441⟩
        · rw [e_z441]
          show xe none 180 160 [(0, .ref 256), (1, vi x1), (2, vi x2), (3, vi x3), (4, vi x4), (5, vi x5), (6, vi x6)] [vi 1] s 0 0 _
          refine x_if_eq k180_160 (t := 167) rfl ⟨by omega, by omega⟩ (fun c443 => by exfalso; omega) (fun c443 => ?_)
          refine x_A k180_163 (fun _ => rfl) ?_
          refine x_goto k180_164 (t := 175) rfl ?_
          exact x_iret k180_175 rfl ⟨hG, f, 0, rfl, ⟨by omega, by omega⟩, by omega⟩
        · rw [e_z441]
          show xe none 180 160 [(0, .ref 256), (1, vi x1), (2, vi x2), (3, vi x3), (4, vi x4), (5, vi x5), (6, vi x6)] [vi 0] s 0 0 _
          refine x_if_eq k180_160 (t := 167) rfl ⟨by omega, by omega⟩ (fun c444 => ?_) (fun c444 => by exfalso; omega)
          refine x_A k180_167 (fun _ => rfl) ?_
          refine x_A k180_168 (fun _ => rfl) ?_
          refine x_A k180_170 (fun _ => rfl) ?_
          refine x_callV k180_172 (y := 177) (n := 2) (w0 := 0) (w1 := 2) (as := [vi x4, vi x6]) (rest := []) (by decide +kernel) (q := 256) (nq := 62) (kq := 15) ⟨by decide, rfl⟩ rfl rfl rfl rfl (xe_mono (C_X11_fails_256 s hG x4 ⟨by omega, by omega⟩ x6 ⟨by omega, by omega⟩) ?_)
          rintro s446 v ⟨hG_s446, t_s446, z445, rfl, g_z445, xp_z445⟩
          have f_s446 : FL [4133, 4136, 4132] s0 s446 := f.tr t_s446 (by decide)
          have q447 : s446 256 36 = x1000 := (t_s446 256 36 (show 4133 ∉ [4132] from by decide)).trans e_x1000.symm
          have q448 : s446 256 34 = x1001 := (t_s446 256 34 (show 4131 ∉ [4132] from by decide)).trans e_x1001.symm
          have q449 : s446 256 39 = x1002 := (t_s446 256 39 (show 4136 ∉ [4132] from by decide)).trans e_x1002.symm
          show xe none 180 175 [(0, .ref 256), (1, vi x1), (2, vi x2), (3, vi x3), (4, vi x4), (5, vi x5), (6, vi x6)] [vi z445] s446 0 0 _
          exact x_iret k180_175 rfl ⟨hG_s446, f_s446, z445, rfl, ⟨by omega, by omega⟩, by omega⟩
      · skip
        refine x_A k180_140 (fun _ => rfl) ?_
        refine x_A k180_141 (fun _ => rfl) ?_
        refine x_A k180_142 (fun _ => rfl) ?_
        refine x_callV k180_144 (y := 177) (n := 2) (w0 := 0) (w1 := 2) (as := [vi 2, vi x6]) (rest := []) (by decide +kernel) (q := 256) (nq := 62) (kq := 15) ⟨by decide, rfl⟩ rfl rfl rfl rfl (xe_mono (C_X11_fails_256 s hG 2 ⟨by omega, by omega⟩ x6 ⟨by omega, by omega⟩) ?_)
        rintro s451 v ⟨hG_s451, t_s451, z450, rfl, g_z450, xp_z450⟩
        have f_s451 : FL [4133, 4136, 4132] s0 s451 := f.tr t_s451 (by decide)
        have q452 : s451 256 36 = x1000 := (t_s451 256 36 (show 4133 ∉ [4132] from by decide)).trans e_x1000.symm
        have q453 : s451 256 34 = x1001 := (t_s451 256 34 (show 4131 ∉ [4132] from by decide)).trans e_x1001.symm
        have q454 : s451 256 39 = x1002 := (t_s451 256 39 (show 4136 ∉ [4132] from by decide)).trans e_x1002.symm
        show xe none 180 147 [(0, .ref 256), (1, vi x1), (2, vi x2), (3, vi x3), (4, vi x4), (5, vi x5), (6, vi x6)] [vi z450] s451 0 0 _
        exact x_iret k180_147 rfl ⟨hG_s451, f_s451, z450, rfl, ⟨by omega, by omega⟩, by omega⟩
    · skip
      refine x_A k180_53 (fun _ => rfl) ?_
      refine x_getR k180_54 (f := 33) rfl (q := 256) (n := 62) (kd := 15) ⟨by decide, rfl⟩ (q2 := 283) (by decide) rfl ?_
      refine x_A k180_57 (fun _ => rfl) ?_
      refine x_getI k180_58 (f := 36) rfl (q := 256) (n := 62) (kd := 15) ⟨by decide, rfl⟩ (by decide) rfl ?_
      rw [e_x1000.symm]
      refine x_iald k180_61 (q := 283) (n := 160) ⟨by decide, rfl⟩ (by decide) ⟨by omega, by omega⟩ ?_
      refine x_top (fun z455 e_z455 => ?_)
      have g_z455 : (0 : Int) ≤ s 283 x1000.toNat ∧ s 283 x1000.toNat ≤ 255 := hG 283 x1000.toNat
      refine x_i2l k180_62 ⟨by omega, by omega⟩ ?_
      refine x_ldc2 k180_63 (z := 48) rfl (by decide +kernel) ?_
      refine x_ldc2 k180_66 (z := 57) rfl (by decide +kernel) ?_
      refine x_callS k180_69 (y := 136) (n := 3) (w0 := 0) (w1 := 6) (as := [vj z455, vj 48, vj 57]) (rest := []) (by decide +kernel) rfl rfl rfl rfl (xe_mono (C_X11_in s hG z455 ⟨by omega, by omega⟩ 48 ⟨by omega, by omega⟩ 57 ⟨by omega, by omega⟩) ?_)
      rintro s457 v ⟨h_s457, z456, rfl, hz_z456⟩
      rw [h_s457]
      rcases hz_z456 with ⟨c_z456, e_z456⟩ | ⟨c_z456, e_z456⟩
      · rw [e_z456]
        show xe none 180 72 [(0, .ref 256), (1, vi x1), (2, vi x2), (3, vi x3), (4, vi x4), (5, vi x5), (6, vi x6)] [vi 1] s 0 0 _
        refine x_if_eq k180_72 (t := 129) rfl ⟨by omega, by omega⟩ (fun c458 => by exfalso; omega) (fun c458 => ?_)
        refine x_A k180_75 (fun _ => rfl) ?_
        refine x_A k180_76 (fun _ => rfl) ?_
        refine x_getI k180_77 (f := 39) rfl (q := 256) (n := 62) (kd := 15) ⟨by decide, rfl⟩ (by decide) rfl ?_
        rw [e_x1002.symm]
        refine x_ldcwI k180_80 (z := 100000) rfl (by decide +kernel) ?_
        refine x_ic_le k180_83 (t := 93) rfl ⟨by omega, by omega⟩ ⟨by omega, by omega⟩ (fun c459 => ?_) (fun c459 => ?_)
        · skip
          refine x_bipush k180_93 (by decide +kernel) ?_
          refine x_A k180_95 (fun _ => rfl) ?_
          refine x_getI k180_96 (f := 39) rfl (q := 256) (n := 62) (kd := 15) ⟨by decide, rfl⟩ (by decide) rfl ?_
          rw [e_x1002.symm]
          refine x_imul k180_99 ?_
          refine x_top (fun z460 e_z460 => ?_)
          refine x_A k180_100 (fun _ => rfl) ?_
          refine x_getR k180_101 (f := 33) rfl (q := 256) (n := 62) (kd := 15) ⟨by decide, rfl⟩ (q2 := 283) (by decide) rfl ?_
          refine x_A k180_104 (fun _ => rfl) ?_
          refine x_getI k180_105 (f := 36) rfl (q := 256) (n := 62) (kd := 15) ⟨by decide, rfl⟩ (by decide) rfl ?_
          rw [e_x1000.symm]
          refine x_iald k180_108 (q := 283) (n := 160) ⟨by decide, rfl⟩ (by decide) ⟨by omega, by omega⟩ ?_
          rw [e_z455.symm]
          refine x_iadd k180_109 ?_
          refine x_top (fun z461 e_z461 => ?_)
          refine x_bipush k180_110 (by decide +kernel) ?_
          refine x_isub k180_112 ?_
          refine x_top (fun z462 e_z462 => ?_)
          refine x_putI k180_113 (f := 39) rfl (q := 256) (n := 62) (kd := 15) ⟨by decide, rfl⟩ rfl rfl rfl ?_
          refine x_nh (fun s463 e_s463 => ?_)
          have hG_s463 : GI s463 := by rw [e_s463]; exact hG.up (show 0 ≤ z462 ∧ z462 ≤ 1100000 from ⟨by omega, by omega⟩)
          have f_s463 : FL [4133, 4136, 4132] s0 s463 := by rw [e_s463]; exact f.up (show 4136 ∈ [4133, 4136, 4132] from by decide)
          have q464 : s463 256 36 = x1000 := by rw [e_s463, x_up_i (by decide)]; exact e_x1000.symm
          have q465 : s463 256 34 = x1001 := by rw [e_s463, x_up_i (by decide)]; exact e_x1001.symm
          have q466 : s463 256 39 = z462 := by rw [e_s463]; exact x_up_same
          have q467 : s463 283 x1000.toNat = z455 := by rw [e_s463, x_up_q (by omega)]; exact e_z455.symm
          refine x_A k180_116 (fun _ => rfl) ?_
          refine x_A k180_117 (fun _ => rfl) ?_
          refine x_getI k180_118 (f := 36) rfl (q := 256) (n := 62) (kd := 15) ⟨by decide, rfl⟩ (by decide) rfl ?_
          rw [q464]
          refine x_A k180_121 (fun _ => rfl) ?_
          refine x_iadd k180_122 ?_
          refine x_top (fun z468 e_z468 => ?_)
          refine x_putI k180_123 (f := 36) rfl (q := 256) (n := 62) (kd := 15) ⟨by decide, rfl⟩ rfl rfl rfl ?_
          refine x_nh (fun s469 e_s469 => ?_)
          have hG_s469 : GI s469 := by rw [e_s469]; exact hG_s463.up (show 0 ≤ z468 ∧ z468 ≤ 160 from ⟨by omega, by omega⟩)
          have f_s469 : FL [4133, 4136, 4132] s0 s469 := by rw [e_s469]; exact f_s463.up (show 4133 ∈ [4133, 4136, 4132] from by decide)
          have q470 : s469 256 34 = x1001 := by rw [e_s469, x_up_i (by decide)]; exact q465
          have q471 : s469 256 39 = z462 := by rw [e_s469, x_up_i (by decide)]; exact q466
          have q472 : s469 256 36 = z468 := by rw [e_s469]; exact x_up_same
          have q473 : s469 283 x1000.toNat = z455 := by rw [e_s469, x_up_q (by omega)]; exact q467
          refine x_goto k180_126 (t := 42) rfl ?_
          refine x_ls (l := [(0, .ref 256), (1, vi x1), (2, vi x2), (3, vi x3), (4, vi x4), (5, vi x5), (6, vi x6)]) (show ([0, 1, 2, 3, 4, 5, 6] : List Nat).Nodup from by decide) ⟨rfl, rfl, rfl, rfl, rfl, rfl, rfl, trivial⟩ ?_
          exact ih s469 x1 x2 x3 x4 x5 x6 z468 x1001 z462 hG_s469 f_s469 ⟨by omega, by omega⟩ ⟨by omega, by omega⟩ ⟨by omega, by omega⟩ ⟨by omega, by omega⟩ ⟨by omega, by omega⟩ ⟨by omega, by omega⟩ ⟨by omega, by omega⟩ ⟨by omega, by omega⟩ ⟨by omega, by omega⟩ (by omega) (by omega) (by omega) (by omega) (by omega) (by omega) (by omega) (by omega) (q472).symm (q470).symm (q471).symm  (by omega)
        · skip
          refine x_A k180_86 (fun _ => rfl) ?_
          refine x_getI k180_87 (f := 39) rfl (q := 256) (n := 62) (kd := 15) ⟨by decide, rfl⟩ (by decide) rfl ?_
          rw [e_x1002.symm]
          refine x_goto k180_90 (t := 113) rfl ?_
          refine x_putI k180_113 (f := 39) rfl (q := 256) (n := 62) (kd := 15) ⟨by decide, rfl⟩ rfl rfl rfl ?_
          refine x_nh (fun s474 e_s474 => ?_)
          have hG_s474 : GI s474 := by rw [e_s474]; exact hG.up (show 0 ≤ x1002 ∧ x1002 ≤ 1100000 from ⟨by omega, by omega⟩)
          have f_s474 : FL [4133, 4136, 4132] s0 s474 := by rw [e_s474]; exact f.up (show 4136 ∈ [4133, 4136, 4132] from by decide)
          have q475 : s474 256 36 = x1000 := by rw [e_s474, x_up_i (by decide)]; exact e_x1000.symm
          have q476 : s474 256 34 = x1001 := by rw [e_s474, x_up_i (by decide)]; exact e_x1001.symm
          have q477 : s474 256 39 = x1002 := by rw [e_s474]; exact x_up_same
          have q478 : s474 283 x1000.toNat = z455 := by rw [e_s474, x_up_q (by omega)]; exact e_z455.symm
          refine x_A k180_116 (fun _ => rfl) ?_
          refine x_A k180_117 (fun _ => rfl) ?_
          refine x_getI k180_118 (f := 36) rfl (q := 256) (n := 62) (kd := 15) ⟨by decide, rfl⟩ (by decide) rfl ?_
          rw [q475]
          refine x_A k180_121 (fun _ => rfl) ?_
          refine x_iadd k180_122 ?_
          refine x_top (fun z479 e_z479 => ?_)
          refine x_putI k180_123 (f := 36) rfl (q := 256) (n := 62) (kd := 15) ⟨by decide, rfl⟩ rfl rfl rfl ?_
          refine x_nh (fun s480 e_s480 => ?_)
          have hG_s480 : GI s480 := by rw [e_s480]; exact hG_s474.up (show 0 ≤ z479 ∧ z479 ≤ 160 from ⟨by omega, by omega⟩)
          have f_s480 : FL [4133, 4136, 4132] s0 s480 := by rw [e_s480]; exact f_s474.up (show 4133 ∈ [4133, 4136, 4132] from by decide)
          have q481 : s480 256 34 = x1001 := by rw [e_s480, x_up_i (by decide)]; exact q476
          have q482 : s480 256 39 = x1002 := by rw [e_s480, x_up_i (by decide)]; exact q477
          have q483 : s480 256 36 = z479 := by rw [e_s480]; exact x_up_same
          have q484 : s480 283 x1000.toNat = z455 := by rw [e_s480, x_up_q (by omega)]; exact q478
          refine x_goto k180_126 (t := 42) rfl ?_
          refine x_ls (l := [(0, .ref 256), (1, vi x1), (2, vi x2), (3, vi x3), (4, vi x4), (5, vi x5), (6, vi x6)]) (show ([0, 1, 2, 3, 4, 5, 6] : List Nat).Nodup from by decide) ⟨rfl, rfl, rfl, rfl, rfl, rfl, rfl, trivial⟩ ?_
          exact ih s480 x1 x2 x3 x4 x5 x6 z479 x1001 x1002 hG_s480 f_s480 ⟨by omega, by omega⟩ ⟨by omega, by omega⟩ ⟨by omega, by omega⟩ ⟨by omega, by omega⟩ ⟨by omega, by omega⟩ ⟨by omega, by omega⟩ ⟨by omega, by omega⟩ ⟨by omega, by omega⟩ ⟨by omega, by omega⟩ (by omega) (by omega) (by omega) (by omega) (by omega) (by omega) (by omega) (by omega) (q483).symm (q481).symm (q482).symm  (by omega)
      · rw [e_z456]
        show xe none 180 72 [(0, .ref 256), (1, vi x1), (2, vi x2), (3, vi x3), (4, vi x4), (5, vi x5), (6, vi x6)] [vi 0] s 0 0 _
        refine x_if_eq k180_72 (t := 129) rfl ⟨by omega, by omega⟩ (fun c485 => ?_) (fun c485 => by exfalso; omega)
        refine x_A k180_129 (fun _ => rfl) ?_
        refine x_getI k180_130 (f := 36) rfl (q := 256) (n := 62) (kd := 15) ⟨by decide, rfl⟩ (by decide) rfl ?_
        rw [e_x1000.symm]
        refine x_A k180_133 (fun _ => rfl) ?_
        refine x_isub k180_135 ?_
        refine x_top (fun z486 e_z486 => ?_)
        refine x_A k180_136 (fun _ => rfl) ?_
        refine x_ic_le k180_137 (t := 148) rfl ⟨by omega, by omega⟩ ⟨by omega, by omega⟩ (fun c487 => ?_) (fun c487 => ?_)
        · skip
          refine x_A k180_148 (fun _ => rfl) ?_
          refine x_getI k180_149 (f := 39) rfl (q := 256) (n := 62) (kd := 15) ⟨by decide, rfl⟩ (by decide) rfl ?_
          rw [e_x1002.symm]
          refine x_i2l k180_152 ⟨by omega, by omega⟩ ?_
          refine x_A k180_153 (fun _ => rfl) ?_
          refine x_i2l k180_154 ⟨by omega, by omega⟩ ?_
          refine x_A k180_155 (fun _ => rfl) ?_
          refine x_i2l k180_156 ⟨by omega, by omega⟩ ?_
          refine x_callS k180_157 (y := 136) (n := 3) (w0 := 0) (w1 := 6) (as := [vj x1002, vj x1, vj x2]) (rest := []) (by decide +kernel) rfl rfl rfl rfl (xe_mono (C_X11_in s hG x1002 ⟨by omega, by omega⟩ x1 ⟨by omega, by omega⟩ x2 ⟨by omega, by omega⟩) ?_)
          rintro s489 v ⟨h_s489, z488, rfl, hz_z488⟩
          rw [h_s489]
          rcases hz_z488 with ⟨c_z488, e_z488⟩ | ⟨c_z488, e_z488⟩
          · rw [e_z488]
            show xe none 180 160 [(0, .ref 256), (1, vi x1), (2, vi x2), (3, vi x3), (4, vi x4), (5, vi x5), (6, vi x6)] [vi 1] s 0 0 _
            refine x_if_eq k180_160 (t := 167) rfl ⟨by omega, by omega⟩ (fun c490 => by exfalso; omega) (fun c490 => ?_)
            refine x_A k180_163 (fun _ => rfl) ?_
            refine x_goto k180_164 (t := 175) rfl ?_
            exact x_iret k180_175 rfl ⟨hG, f, 0, rfl, ⟨by omega, by omega⟩, by omega⟩
          · rw [e_z488]
            show xe none 180 160 [(0, .ref 256), (1, vi x1), (2, vi x2), (3, vi x3), (4, vi x4), (5, vi x5), (6, vi x6)] [vi 0] s 0 0 _
            refine x_if_eq k180_160 (t := 167) rfl ⟨by omega, by omega⟩ (fun c491 => ?_) (fun c491 => by exfalso; omega)
            refine x_A k180_167 (fun _ => rfl) ?_
            refine x_A k180_168 (fun _ => rfl) ?_
            refine x_A k180_170 (fun _ => rfl) ?_
            refine x_callV k180_172 (y := 177) (n := 2) (w0 := 0) (w1 := 2) (as := [vi x4, vi x6]) (rest := []) (by decide +kernel) (q := 256) (nq := 62) (kq := 15) ⟨by decide, rfl⟩ rfl rfl rfl rfl (xe_mono (C_X11_fails_256 s hG x4 ⟨by omega, by omega⟩ x6 ⟨by omega, by omega⟩) ?_)
            rintro s493 v ⟨hG_s493, t_s493, z492, rfl, g_z492, xp_z492⟩
            have f_s493 : FL [4133, 4136, 4132] s0 s493 := f.tr t_s493 (by decide)
            have q494 : s493 256 36 = x1000 := (t_s493 256 36 (show 4133 ∉ [4132] from by decide)).trans e_x1000.symm
            have q495 : s493 256 34 = x1001 := (t_s493 256 34 (show 4131 ∉ [4132] from by decide)).trans e_x1001.symm
            have q496 : s493 256 39 = x1002 := (t_s493 256 39 (show 4136 ∉ [4132] from by decide)).trans e_x1002.symm
            have q497 : s493 283 x1000.toNat = z455 := (t_s493 283 x1000.toNat (show 5824 ∉ [4132] from by decide)).trans e_z455.symm
            show xe none 180 175 [(0, .ref 256), (1, vi x1), (2, vi x2), (3, vi x3), (4, vi x4), (5, vi x5), (6, vi x6)] [vi z492] s493 0 0 _
            exact x_iret k180_175 rfl ⟨hG_s493, f_s493, z492, rfl, ⟨by omega, by omega⟩, by omega⟩
        · skip
          refine x_A k180_140 (fun _ => rfl) ?_
          refine x_A k180_141 (fun _ => rfl) ?_
          refine x_A k180_142 (fun _ => rfl) ?_
          refine x_callV k180_144 (y := 177) (n := 2) (w0 := 0) (w1 := 2) (as := [vi 2, vi x6]) (rest := []) (by decide +kernel) (q := 256) (nq := 62) (kq := 15) ⟨by decide, rfl⟩ rfl rfl rfl rfl (xe_mono (C_X11_fails_256 s hG 2 ⟨by omega, by omega⟩ x6 ⟨by omega, by omega⟩) ?_)
          rintro s499 v ⟨hG_s499, t_s499, z498, rfl, g_z498, xp_z498⟩
          have f_s499 : FL [4133, 4136, 4132] s0 s499 := f.tr t_s499 (by decide)
          have q500 : s499 256 36 = x1000 := (t_s499 256 36 (show 4133 ∉ [4132] from by decide)).trans e_x1000.symm
          have q501 : s499 256 34 = x1001 := (t_s499 256 34 (show 4131 ∉ [4132] from by decide)).trans e_x1001.symm
          have q502 : s499 256 39 = x1002 := (t_s499 256 39 (show 4136 ∉ [4132] from by decide)).trans e_x1002.symm
          have q503 : s499 283 x1000.toNat = z455 := (t_s499 283 x1000.toNat (show 5824 ∉ [4132] from by decide)).trans e_z455.symm
          show xe none 180 147 [(0, .ref 256), (1, vi x1), (2, vi x2), (3, vi x3), (4, vi x4), (5, vi x5), (6, vi x6)] [vi z498] s499 0 0 _
          exact x_iret k180_147 rfl ⟨hG_s499, f_s499, z498, rfl, ⟨by omega, by omega⟩, by omega⟩
theorem C_X11_readNumber_256 (s0 : xS) (hG0 : GI s0) (a : Int) (b_a : (-2147483648) ≤ a ∧ a ≤ 2147483647) (b : Int) (b_b : (-2147483648) ≤ b ∧ b ≤ 2147483647) (d : Int) (b_d : (-2147483648) ≤ d ∧ d ≤ 2147483647) (e : Int) (b_e : 1 ≤ e ∧ e ≤ 5) : xe none 180 0 (lv_args 0 [.ref 256, vi a, vi b, vi d, vi e]) [] s0 0 0 (fun s' v => GI s' ∧ FL [4133, 4136, 4132] s0 s' ∧ ∃ z, v = some (vi z) ∧ (0 ≤ z ∧ z ≤ 5) ∧ ((z = 0 → a ≤ s' 256 39 ∧ s' 256 39 ≤ b) ∧ s0 256 36 ≤ s' 256 36 ∧ (s0 256 36 ≤ s' 256 34 → s' 256 36 ≤ s' 256 34))) := by
  have f0 : FL [4133, 4136, 4132] s0 s0 := FL.rf
  show xe none 180 0 [(0, .ref 256), (1, vi a), (2, vi b), (3, vi d), (4, vi e)] [] s0 0 0 _
  refine x_A k180_0 (fun _ => rfl) ?_
  refine x_callV k180_1 (y := 176) (n := 0) (w0 := 0) (w1 := 0) (as := []) (rest := []) (by decide +kernel) (q := 256) (nq := 62) (kq := 15) ⟨by decide, rfl⟩ rfl rfl rfl rfl (xe_mono (C_X11_here_256 s0 hG0) ?_)
  rintro s505 v ⟨hG_s505, t_s505, z504, rfl, g_z504, xp_z504⟩
  have f_s505 : FL [4133, 4136, 4132] s0 s505 := f0.tr t_s505 (by decide)
  obtain ⟨z506, e_z506⟩ : ∃ z, z = s505 256 36 := ⟨_, rfl⟩
  have g_z506 : (0 : Int) ≤ s505 256 36 ∧ s505 256 36 ≤ 160 := hG_s505 256 36
  obtain ⟨z507, e_z507⟩ : ∃ z, z = s505 256 34 := ⟨_, rfl⟩
  have g_z507 : (0 : Int) ≤ s505 256 34 ∧ s505 256 34 ≤ 160 := hG_s505 256 34
  show xe none 180 4 [(0, .ref 256), (1, vi a), (2, vi b), (3, vi d), (4, vi e)] [vi z504] s505 0 0 _
  refine x_istore k180_4 (ls' := [(5, vi z504), (0, .ref 256), (1, vi a), (2, vi b), (3, vi d), (4, vi e)]) (by decide) rfl ?_
  refine x_A k180_6 (fun _ => rfl) ?_
  refine x_i2l k180_8 ⟨by omega, by omega⟩ ?_
  refine x_ldc2 k180_9 (z := 48) rfl (by decide +kernel) ?_
  refine x_ldc2 k180_12 (z := 57) rfl (by decide +kernel) ?_
  refine x_callS k180_15 (y := 136) (n := 3) (w0 := 0) (w1 := 6) (as := [vj z504, vj 48, vj 57]) (rest := []) (by decide +kernel) rfl rfl rfl rfl (xe_mono (C_X11_in s505 hG_s505 z504 ⟨by omega, by omega⟩ 48 ⟨by omega, by omega⟩ 57 ⟨by omega, by omega⟩) ?_)
  rintro s509 v ⟨h_s509, z508, rfl, hz_z508⟩
  rw [h_s509]
  rcases hz_z508 with ⟨c_z508, e_z508⟩ | ⟨c_z508, e_z508⟩
  · rw [e_z508]
    show xe none 180 18 [(5, vi z504), (0, .ref 256), (1, vi a), (2, vi b), (3, vi d), (4, vi e)] [vi 1] s505 0 0 _
    refine x_if_ne k180_18 (t := 31) rfl ⟨by omega, by omega⟩ (fun c510 => ?_) (fun c510 => by exfalso; omega)
    refine x_A k180_31 (fun _ => rfl) ?_
    refine x_getI k180_32 (f := 36) rfl (q := 256) (n := 62) (kd := 15) ⟨by decide, rfl⟩ (by decide) rfl ?_
    rw [e_z506.symm]
    refine x_istore k180_35 (ls' := [(6, vi z506), (5, vi z504), (0, .ref 256), (1, vi a), (2, vi b), (3, vi d), (4, vi e)]) (by decide) rfl ?_
    refine x_A k180_37 (fun _ => rfl) ?_
    refine x_A k180_38 (fun _ => rfl) ?_
    refine x_putI k180_39 (f := 39) rfl (q := 256) (n := 62) (kd := 15) ⟨by decide, rfl⟩ rfl rfl rfl ?_
    refine x_nh (fun s511 e_s511 => ?_)
    have hG_s511 : GI s511 := by rw [e_s511]; exact hG_s505.up (show 0 ≤ 0 ∧ 0 ≤ 1100000 from ⟨by omega, by omega⟩)
    have f_s511 : FL [4133, 4136, 4132] s0 s511 := by rw [e_s511]; exact f_s505.up (show 4136 ∈ [4133, 4136, 4132] from by decide)
    have q512 : s511 256 36 = z506 := by rw [e_s511, x_up_i (by decide)]; exact e_z506.symm
    have q513 : s511 256 34 = z507 := by rw [e_s511, x_up_i (by decide)]; exact e_z507.symm
    have q514 : s511 256 39 = 0 := by rw [e_s511]; exact x_up_same
    refine x_ls (l := [(0, .ref 256), (1, vi a), (2, vi b), (3, vi d), (4, vi e), (5, vi z504), (6, vi z506)]) (show ([0, 1, 2, 3, 4, 5, 6] : List Nat).Nodup from by decide) ⟨rfl, rfl, rfl, rfl, rfl, rfl, rfl, trivial⟩ ?_
    exact L_C_X11_readNumber_256_42 s0 a b_a b b_b d b_d e b_e  (((160 - z506) + 1 : Int)).toNat s511 a b d e z504 z506 z506 z507 0 hG_s511 f_s511 ⟨by omega, by omega⟩ ⟨by omega, by omega⟩ ⟨by omega, by omega⟩ ⟨by omega, by omega⟩ ⟨by omega, by omega⟩ ⟨by omega, by omega⟩ ⟨by omega, by omega⟩ ⟨by omega, by omega⟩ ⟨by omega, by omega⟩ (by omega) (by omega) (by omega) (by omega) (by omega) (by omega) (by omega) (by omega) (q512).symm (q513).symm (q514).symm  (by omega)
  · rw [e_z508]
    show xe none 180 18 [(5, vi z504), (0, .ref 256), (1, vi a), (2, vi b), (3, vi d), (4, vi e)] [vi 0] s505 0 0 _
    refine x_if_ne k180_18 (t := 31) rfl ⟨by omega, by omega⟩ (fun c515 => by exfalso; omega) (fun c515 => ?_)
    refine x_A k180_21 (fun _ => rfl) ?_
    refine x_A k180_22 (fun _ => rfl) ?_
    refine x_A k180_23 (fun _ => rfl) ?_
    refine x_getI k180_24 (f := 36) rfl (q := 256) (n := 62) (kd := 15) ⟨by decide, rfl⟩ (by decide) rfl ?_
    rw [e_z506.symm]
    refine x_callV k180_27 (y := 177) (n := 2) (w0 := 0) (w1 := 2) (as := [vi 1, vi z506]) (rest := []) (by decide +kernel) (q := 256) (nq := 62) (kq := 15) ⟨by decide, rfl⟩ rfl rfl rfl rfl (xe_mono (C_X11_fails_256 s505 hG_s505 1 ⟨by omega, by omega⟩ z506 ⟨by omega, by omega⟩) ?_)
    rintro s517 v ⟨hG_s517, t_s517, z516, rfl, g_z516, xp_z516⟩
    have f_s517 : FL [4133, 4136, 4132] s0 s517 := f_s505.tr t_s517 (by decide)
    have q518 : s517 256 36 = z506 := (t_s517 256 36 (show 4133 ∉ [4132] from by decide)).trans e_z506.symm
    have q519 : s517 256 34 = z507 := (t_s517 256 34 (show 4131 ∉ [4132] from by decide)).trans e_z507.symm
    show xe none 180 30 [(5, vi z504), (0, .ref 256), (1, vi a), (2, vi b), (3, vi d), (4, vi e)] [vi z516] s517 0 0 _
    obtain ⟨z520, e_z520⟩ : ∃ z, z = s517 256 39 := ⟨_, rfl⟩
    have g_z520 : (0 : Int) ≤ s517 256 39 ∧ s517 256 39 ≤ 1100000 := hG_s517 256 39
    exact x_iret k180_30 rfl ⟨hG_s517, f_s517, z516, rfl, ⟨by omega, by omega⟩, by omega⟩
