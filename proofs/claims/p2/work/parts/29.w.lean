theorem L_C_X11_readNumber_256_42 (s0 : xS)  : ∀ (n : Nat) (s : xS) (x1 : Int) (x2 : Int) (x3 : Int) (x4 : Int) (x5 : Int) (x6 : Int) (x1000 : Int) (x1001 : Int) (x1002 : Int) (hG : GI s) (f : FL [4133, 4136, 4132] s0 s) (b_x1 : (-2147483648) ≤ x1 ∧ x1 ≤ 2147483647) (b_x2 : (-2147483648) ≤ x2 ∧ x2 ≤ 2147483647) (b_x3 : (-2147483648) ≤ x3 ∧ x3 ≤ 2147483647) (b_x4 : (-2147483648) ≤ x4 ∧ x4 ≤ 2147483647) (b_x5 : 48 ≤ x5 ∧ x5 ≤ 57) (b_x6 : 0 ≤ x6 ∧ x6 ≤ 160) (b_x1000 : 0 ≤ x1000 ∧ x1000 ≤ 160) (b_x1001 : 0 ≤ x1001 ∧ x1001 ≤ 160) (b_x1002 : 0 ≤ x1002 ∧ x1002 ≤ 2147483647) (r_6_1000 : x6 ≤ x1000 + 0) (e_x1000 : x1000 = s 256 36) (e_x1001 : x1001 = s 256 34) (e_x1002 : x1002 = s 256 39)  (hm : (160 - x1000) < (n : Int)), xe none 180 42 [(0, .ref 256), (1, vi x1), (2, vi x2), (3, vi x3), (4, vi x4), (5, vi x5), (6, vi x6)] [] s 0 0 (fun s' v => GI s' ∧ FL [4133, 4136, 4132] s0 s' ∧ ∃ z, v = some (vi z) ∧ ((-2147483648) ≤ z ∧ z ≤ 2147483647)) := by
  intro n
  induction n with
  | zero => intro s x1 x2 x3 x4 x5 x6 x1000 x1001 x1002 hG f b_x1 b_x2 b_x3 b_x4 b_x5 b_x6 b_x1000 b_x1001 b_x1002 r_6_1000 e_x1000 e_x1001 e_x1002  hm; exfalso; omega
  | succ n ih =>
    intro s x1 x2 x3 x4 x5 x6 x1000 x1001 x1002 hG f b_x1 b_x2 b_x3 b_x4 b_x5 b_x6 b_x1000 b_x1001 b_x1002 r_6_1000 e_x1000 e_x1001 e_x1002  hm
    refine x_A k180_42 (fun _ => rfl) ?_
    refine x_getI k180_43 (f := 36) rfl (q := 256) (n := 62) (kd := 15) ⟨by decide, rfl⟩ (by decide) rfl ?_
    rw [e_x1000.symm]
    refine x_A k180_46 (fun _ => rfl) ?_
    refine x_getI k180_47 (f := 34) rfl (q := 256) (n := 62) (kd := 15) ⟨by decide, rfl⟩ (by decide) rfl ?_
    rw [e_x1001.symm]
    refine x_ic_ge k180_50 (t := 129) rfl ⟨by omega, by omega⟩ ⟨by omega, by omega⟩ (fun c428 => ?_) (fun c428 => ?_)
    · skip
      refine x_A k180_129 (fun _ => rfl) ?_
      refine x_getI k180_130 (f := 36) rfl (q := 256) (n := 62) (kd := 15) ⟨by decide, rfl⟩ (by decide) rfl ?_
      rw [e_x1000.symm]
      refine x_A k180_133 (fun _ => rfl) ?_
      refine x_isub k180_135 ?_
      refine x_top (fun z429 e_z429 => ?_)
      refine x_A k180_136 (fun _ => rfl) ?_
      refine x_ic_le k180_137 (t := 148) rfl ⟨by omega, by omega⟩ ⟨by omega, by omega⟩ (fun c430 => ?_) (fun c430 => ?_)
      · skip
        refine x_A k180_148 (fun _ => rfl) ?_
        refine x_getI k180_149 (f := 39) rfl (q := 256) (n := 62) (kd := 15) ⟨by decide, rfl⟩ (by decide) rfl ?_
        rw [e_x1002.symm]
        refine x_i2l k180_152 ⟨by omega, by omega⟩ ?_
        refine x_A k180_153 (fun _ => rfl) ?_
        refine x_i2l k180_154 ⟨by omega, by omega⟩ ?_
        refine x_A k180_155 (fun _ => rfl) ?_
        refine x_i2l k180_156 ⟨by omega, by omega⟩ ?_
        refine x_callS k180_157 (y := 136) (n := 3) (w0 := 0) (w1 := 6) (as := [vj x1002, vj x1, vj x2]) (rest := []) (by decide +kernel) rfl rfl rfl rfl (xe_mono (C_X11_in s hG x1002 ⟨by omega, by omega⟩ x1 ⟨by omega, by omega⟩ x2 ⟨by omega, by omega⟩) ?_)
        rintro s432 v ⟨h_s432, z431, rfl, hz_z431⟩
        rw [h_s432]
        rcases hz_z431 with ⟨c_z431, e_z431⟩ | ⟨c_z431, e_z431⟩
        · rw [e_z431]
          show xe none 180 160 [(0, .ref 256), (1, vi x1), (2, vi x2), (3, vi x3), (4, vi x4), (5, vi x5), (6, vi x6)] [vi 1] s 0 0 _
          refine x_if_eq k180_160 (t := 167) rfl ⟨by omega, by omega⟩ (fun c433 => by exfalso; omega) (fun c433 => ?_)
          refine x_A k180_163 (fun _ => rfl) ?_
          refine x_goto k180_164 (t := 175) rfl ?_
          exact x_iret k180_175 rfl ⟨hG, f, 0, rfl, ⟨by omega, by omega⟩⟩
        · rw [e_z431]
          show xe none 180 160 [(0, .ref 256), (1, vi x1), (2, vi x2), (3, vi x3), (4, vi x4), (5, vi x5), (6, vi x6)] [vi 0] s 0 0 _
          refine x_if_eq k180_160 (t := 167) rfl ⟨by omega, by omega⟩ (fun c434 => ?_) (fun c434 => by exfalso; omega)
          refine x_A k180_167 (fun _ => rfl) ?_
          refine x_A k180_168 (fun _ => rfl) ?_
          refine x_A k180_170 (fun _ => rfl) ?_
          refine x_callV k180_172 (y := 177) (n := 2) (w0 := 0) (w1 := 2) (as := [vi x4, vi x6]) (rest := []) (by decide +kernel) (q := 256) (nq := 62) (kq := 15) ⟨by decide, rfl⟩ rfl rfl rfl rfl (xe_mono (C_X11_fails_256 s hG x4 ⟨by omega, by omega⟩ x6 ⟨by omega, by omega⟩) ?_)
          rintro s436 v ⟨hG_s436, t_s436, z435, rfl, g_z435⟩
          have f_s436 : FL [4133, 4136, 4132] s0 s436 := f.tr t_s436 (by decide)
          have q437 : s436 256 36 = x1000 := (t_s436 256 36 (show 4133 ∉ [4132] from by decide)).trans e_x1000.symm
          have q438 : s436 256 34 = x1001 := (t_s436 256 34 (show 4131 ∉ [4132] from by decide)).trans e_x1001.symm
          have q439 : s436 256 39 = x1002 := (t_s436 256 39 (show 4136 ∉ [4132] from by decide)).trans e_x1002.symm
          show xe none 180 175 [(0, .ref 256), (1, vi x1), (2, vi x2), (3, vi x3), (4, vi x4), (5, vi x5), (6, vi x6)] [vi z435] s436 0 0 _
          exact x_iret k180_175 rfl ⟨hG_s436, f_s436, z435, rfl, ⟨by omega, by omega⟩⟩
      · skip
        refine x_A k180_140 (fun _ => rfl) ?_
        refine x_A k180_141 (fun _ => rfl) ?_
        refine x_A k180_142 (fun _ => rfl) ?_
        refine x_callV k180_144 (y := 177) (n := 2) (w0 := 0) (w1 := 2) (as := [vi 2, vi x6]) (rest := []) (by decide +kernel) (q := 256) (nq := 62) (kq := 15) ⟨by decide, rfl⟩ rfl rfl rfl rfl (xe_mono (C_X11_fails_256 s hG 2 ⟨by omega, by omega⟩ x6 ⟨by omega, by omega⟩) ?_)
        rintro s441 v ⟨hG_s441, t_s441, z440, rfl, g_z440⟩
        have f_s441 : FL [4133, 4136, 4132] s0 s441 := f.tr t_s441 (by decide)
        have q442 : s441 256 36 = x1000 := (t_s441 256 36 (show 4133 ∉ [4132] from by decide)).trans e_x1000.symm
        have q443 : s441 256 34 = x1001 := (t_s441 256 34 (show 4131 ∉ [4132] from by decide)).trans e_x1001.symm
        have q444 : s441 256 39 = x1002 := (t_s441 256 39 (show 4136 ∉ [4132] from by decide)).trans e_x1002.symm
        show xe none 180 147 [(0, .ref 256), (1, vi x1), (2, vi x2), (3, vi x3), (4, vi x4), (5, vi x5), (6, vi x6)] [vi z440] s441 0 0 _
        exact x_iret k180_147 rfl ⟨hG_s441, f_s441, z440, rfl, ⟨by omega, by omega⟩⟩
    · skip
      refine x_A k180_53 (fun _ => rfl) ?_
      refine x_getR k180_54 (f := 33) rfl (q := 256) (n := 62) (kd := 15) ⟨by decide, rfl⟩ (q2 := 283) (by decide) rfl ?_
      refine x_A k180_57 (fun _ => rfl) ?_
      refine x_getI k180_58 (f := 36) rfl (q := 256) (n := 62) (kd := 15) ⟨by decide, rfl⟩ (by decide) rfl ?_
      rw [e_x1000.symm]
      refine x_iald k180_61 (q := 283) (n := 160) ⟨by decide, rfl⟩ (by decide) ⟨by omega, by omega⟩ ?_
      refine x_top (fun z445 e_z445 => ?_)
      have g_z445 : (0 : Int) ≤ s 283 x1000.toNat ∧ s 283 x1000.toNat ≤ 255 := hG 283 x1000.toNat
      refine x_i2l k180_62 ⟨by omega, by omega⟩ ?_
      refine x_ldc2 k180_63 (z := 48) rfl (by decide +kernel) ?_
      refine x_ldc2 k180_66 (z := 57) rfl (by decide +kernel) ?_
      refine x_callS k180_69 (y := 136) (n := 3) (w0 := 0) (w1 := 6) (as := [vj z445, vj 48, vj 57]) (rest := []) (by decide +kernel) rfl rfl rfl rfl (xe_mono (C_X11_in s hG z445 ⟨by omega, by omega⟩ 48 ⟨by omega, by omega⟩ 57 ⟨by omega, by omega⟩) ?_)
      rintro s447 v ⟨h_s447, z446, rfl, hz_z446⟩
      rw [h_s447]
      rcases hz_z446 with ⟨c_z446, e_z446⟩ | ⟨c_z446, e_z446⟩
      · rw [e_z446]
        show xe none 180 72 [(0, .ref 256), (1, vi x1), (2, vi x2), (3, vi x3), (4, vi x4), (5, vi x5), (6, vi x6)] [vi 1] s 0 0 _
        refine x_if_eq k180_72 (t := 129) rfl ⟨by omega, by omega⟩ (fun c448 => by exfalso; omega) (fun c448 => ?_)
        refine x_A k180_75 (fun _ => rfl) ?_
        refine x_A k180_76 (fun _ => rfl) ?_
        refine x_getI k180_77 (f := 39) rfl (q := 256) (n := 62) (kd := 15) ⟨by decide, rfl⟩ (by decide) rfl ?_
        rw [e_x1002.symm]
        refine x_ldcwI k180_80 (z := 100000) rfl (by decide +kernel) ?_
        refine x_ic_le k180_83 (t := 93) rfl ⟨by omega, by omega⟩ ⟨by omega, by omega⟩ (fun c449 => ?_) (fun c449 => ?_)
        · skip
          refine x_bipush k180_93 (by decide +kernel) ?_
          refine x_A k180_95 (fun _ => rfl) ?_
          refine x_getI k180_96 (f := 39) rfl (q := 256) (n := 62) (kd := 15) ⟨by decide, rfl⟩ (by decide) rfl ?_
          rw [e_x1002.symm]
          refine x_imul k180_99 ?_
          refine x_top (fun z450 e_z450 => ?_)
          refine x_A k180_100 (fun _ => rfl) ?_
          refine x_getR k180_101 (f := 33) rfl (q := 256) (n := 62) (kd := 15) ⟨by decide, rfl⟩ (q2 := 283) (by decide) rfl ?_
          refine x_A k180_104 (fun _ => rfl) ?_
          refine x_getI k180_105 (f := 36) rfl (q := 256) (n := 62) (kd := 15) ⟨by decide, rfl⟩ (by decide) rfl ?_
          rw [e_x1000.symm]
          refine x_iald k180_108 (q := 283) (n := 160) ⟨by decide, rfl⟩ (by decide) ⟨by omega, by omega⟩ ?_
          rw [e_z445.symm]
          refine x_iadd k180_109 ?_
          refine x_top (fun z451 e_z451 => ?_)
          refine x_bipush k180_110 (by decide +kernel) ?_
          refine x_isub k180_112 ?_
          refine x_top (fun z452 e_z452 => ?_)
          refine x_putI k180_113 (f := 39) rfl (q := 256) (n := 62) (kd := 15) ⟨by decide, rfl⟩ rfl rfl rfl ?_
          refine x_nh (fun s453 e_s453 => ?_)
          have hG_s453 : GI s453 := by rw [e_s453]; exact hG.up (show 0 ≤ z452 ∧ z452 ≤ 1100000 from ⟨by omega, by omega⟩)
          have f_s453 : FL [4133, 4136, 4132] s0 s453 := by rw [e_s453]; exact f.up (show 4136 ∈ [4133, 4136, 4132] from by decide)
          have q454 : s453 256 36 = x1000 := by rw [e_s453, x_up_i (by decide)]; exact e_x1000.symm
          have q455 : s453 256 34 = x1001 := by rw [e_s453, x_up_i (by decide)]; exact e_x1001.symm
          have q456 : s453 256 39 = z452 := by rw [e_s453]; exact x_up_same
          have q457 : s453 283 x1000.toNat = z445 := by rw [e_s453, x_up_q (by omega)]; exact e_z445.symm
          refine x_A k180_116 (fun _ => rfl) ?_
          refine x_A k180_117 (fun _ => rfl) ?_
          refine x_getI k180_118 (f := 36) rfl (q := 256) (n := 62) (kd := 15) ⟨by decide, rfl⟩ (by decide) rfl ?_
          rw [q454]
          refine x_A k180_121 (fun _ => rfl) ?_
          refine x_iadd k180_122 ?_
          refine x_top (fun z458 e_z458 => ?_)
          refine x_putI k180_123 (f := 36) rfl (q := 256) (n := 62) (kd := 15) ⟨by decide, rfl⟩ rfl rfl rfl ?_
          refine x_nh (fun s459 e_s459 => ?_)
          have hG_s459 : GI s459 := by rw [e_s459]; exact hG_s453.up (show 0 ≤ z458 ∧ z458 ≤ 160 from ⟨by omega, by omega⟩)
          have f_s459 : FL [4133, 4136, 4132] s0 s459 := by rw [e_s459]; exact f_s453.up (show 4133 ∈ [4133, 4136, 4132] from by decide)
          have q460 : s459 256 34 = x1001 := by rw [e_s459, x_up_i (by decide)]; exact q455
          have q461 : s459 256 39 = z452 := by rw [e_s459, x_up_i (by decide)]; exact q456
          have q462 : s459 256 36 = z458 := by rw [e_s459]; exact x_up_same
          have q463 : s459 283 x1000.toNat = z445 := by rw [e_s459, x_up_q (by omega)]; exact q457
          refine x_goto k180_126 (t := 42) rfl ?_
          refine x_ls (l := [(0, .ref 256), (1, vi x1), (2, vi x2), (3, vi x3), (4, vi x4), (5, vi x5), (6, vi x6)]) (show ([0, 1, 2, 3, 4, 5, 6] : List Nat).Nodup from by decide) ⟨rfl, rfl, rfl, rfl, rfl, rfl, rfl, trivial⟩ ?_
          exact ih s459 x1 x2 x3 x4 x5 x6 z458 x1001 z452 hG_s459 f_s459 ⟨by omega, by omega⟩ ⟨by omega, by omega⟩ ⟨by omega, by omega⟩ ⟨by omega, by omega⟩ ⟨by omega, by omega⟩ ⟨by omega, by omega⟩ ⟨by omega, by omega⟩ ⟨by omega, by omega⟩ ⟨by omega, by omega⟩ (by omega) (q462).symm (q460).symm (q461).symm  (by omega)
        · skip
          refine x_A k180_86 (fun _ => rfl) ?_
          refine x_getI k180_87 (f := 39) rfl (q := 256) (n := 62) (kd := 15) ⟨by decide, rfl⟩ (by decide) rfl ?_
          rw [e_x1002.symm]
          refine x_goto k180_90 (t := 113) rfl ?_
          refine x_putI k180_113 (f := 39) rfl (q := 256) (n := 62) (kd := 15) ⟨by decide, rfl⟩ rfl rfl rfl ?_
          refine x_nh (fun s464 e_s464 => ?_)
          have hG_s464 : GI s464 := by rw [e_s464]; exact hG.up (show 0 ≤ x1002 ∧ x1002 ≤ 1100000 from ⟨by omega, by omega⟩)
          have f_s464 : FL [4133, 4136, 4132] s0 s464 := by rw [e_s464]; exact f.up (show 4136 ∈ [4133, 4136, 4132] from by decide)
          have q465 : s464 256 36 = x1000 := by rw [e_s464, x_up_i (by decide)]; exact e_x1000.symm
          have q466 : s464 256 34 = x1001 := by rw [e_s464, x_up_i (by decide)]; exact e_x1001.symm
          have q467 : s464 256 39 = x1002 := by rw [e_s464]; exact x_up_same
          have q468 : s464 283 x1000.toNat = z445 := by rw [e_s464, x_up_q (by omega)]; exact e_z445.symm
          refine x_A k180_116 (fun _ => rfl) ?_
          refine x_A k180_117 (fun _ => rfl) ?_
          refine x_getI k180_118 (f := 36) rfl (q := 256) (n := 62) (kd := 15) ⟨by decide, rfl⟩ (by decide) rfl ?_
          rw [q465]
          refine x_A k180_121 (fun _ => rfl) ?_
          refine x_iadd k180_122 ?_
          refine x_top (fun z469 e_z469 => ?_)
          refine x_putI k180_123 (f := 36) rfl (q := 256) (n := 62) (kd := 15) ⟨by decide, rfl⟩ rfl rfl rfl ?_
          refine x_nh (fun s470 e_s470 => ?_)
          have hG_s470 : GI s470 := by rw [e_s470]; exact hG_s464.up (show 0 ≤ z469 ∧ z469 ≤ 160 from ⟨by omega, by omega⟩)
          have f_s470 : FL [4133, 4136, 4132] s0 s470 := by rw [e_s470]; exact f_s464.up (show 4133 ∈ [4133, 4136, 4132] from by decide)
          have q471 : s470 256 34 = x1001 := by rw [e_s470, x_up_i (by decide)]; exact q466
          have q472 : s470 256 39 = x1002 := by rw [e_s470, x_up_i (by decide)]; exact q467
          have q473 : s470 256 36 = z469 := by rw [e_s470]; exact x_up_same
          have q474 : s470 283 x1000.toNat = z445 := by rw [e_s470, x_up_q (by omega)]; exact q468
          refine x_goto k180_126 (t := 42) rfl ?_
          refine x_ls (l := [(0, .ref 256), (1, vi x1), (2, vi x2), (3, vi x3), (4, vi x4), (5, vi x5), (6, vi x6)]) (show ([0, 1, 2, 3, 4, 5, 6] : List Nat).Nodup from by decide) ⟨rfl, rfl, rfl, rfl, rfl, rfl, rfl, trivial⟩ ?_
          exact ih s470 x1 x2 x3 x4 x5 x6 z469 x1001 x1002 hG_s470 f_s470 ⟨by omega, by omega⟩ ⟨by omega, by omega⟩ ⟨by omega, by omega⟩ ⟨by omega, by omega⟩ ⟨by omega, by omega⟩ ⟨by omega, by omega⟩ ⟨by omega, by omega⟩ ⟨by omega, by omega⟩ ⟨by omega, by omega⟩ (by omega) (q473).symm (q471).symm (q472).symm  (by omega)
      · rw [e_z446]
        show xe none 180 72 [(0, .ref 256), (1, vi x1), (2, vi x2), (3, vi x3), (4, vi x4), (5, vi x5), (6, vi x6)] [vi 0] s 0 0 _
        refine x_if_eq k180_72 (t := 129) rfl ⟨by omega, by omega⟩ (fun c475 => ?_) (fun c475 => by exfalso; omega)
        refine x_A k180_129 (fun _ => rfl) ?_
        refine x_getI k180_130 (f := 36) rfl (q := 256) (n := 62) (kd := 15) ⟨by decide, rfl⟩ (by decide) rfl ?_
        rw [e_x1000.symm]
        refine x_A k180_133 (fun _ => rfl) ?_
        refine x_isub k180_135 ?_
        refine x_top (fun z476 e_z476 => ?_)
        refine x_A k180_136 (fun _ => rfl) ?_
        refine x_ic_le k180_137 (t := 148) rfl ⟨by omega, by omega⟩ ⟨by omega, by omega⟩ (fun c477 => ?_) (fun c477 => ?_)
        · skip
          refine x_A k180_148 (fun _ => rfl) ?_
          refine x_getI k180_149 (f := 39) rfl (q := 256) (n := 62) (kd := 15) ⟨by decide, rfl⟩ (by decide) rfl ?_
          rw [e_x1002.symm]
          refine x_i2l k180_152 ⟨by omega, by omega⟩ ?_
          refine x_A k180_153 (fun _ => rfl) ?_
          refine x_i2l k180_154 ⟨by omega, by omega⟩ ?_
          refine x_A k180_155 (fun _ => rfl) ?_
          refine x_i2l k180_156 ⟨by omega, by omega⟩ ?_
          refine x_callS k180_157 (y := 136) (n := 3) (w0 := 0) (w1 := 6) (as := [vj x1002, vj x1, vj x2]) (rest := []) (by decide +kernel) rfl rfl rfl rfl (xe_mono (C_X11_in s hG x1002 ⟨by omega, by omega⟩ x1 ⟨by omega, by omega⟩ x2 ⟨by omega, by omega⟩) ?_)
          rintro s479 v ⟨h_s479, z478, rfl, hz_z478⟩
          rw [h_s479]
          rcases hz_z478 with ⟨c_z478, e_z478⟩ | ⟨c_z478, e_z478⟩
          · rw [e_z478]
            show xe none 180 160 [(0, .ref 256), (1, vi x1), (2, vi x2), (3, vi x3), (4, vi x4), (5, vi x5), (6, vi x6)] [vi 1] s 0 0 _
            refine x_if_eq k180_160 (t := 167) rfl ⟨by omega, by omega⟩ (fun c480 => by exfalso; omega) (fun c480 => ?_)
            refine x_A k180_163 (fun _ => rfl) ?_
            refine x_goto k180_164 (t := 175) rfl ?_
            exact x_iret k180_175 rfl ⟨hG, f, 0, rfl, ⟨by omega, by omega⟩⟩
          · rw [e_z478]
            show xe none 180 160 [(0, .ref 256), (1, vi x1), (2, vi x2), (3, vi x3), (4, vi x4), (5, vi x5), (6, vi x6)] [vi 0] s 0 0 _
            refine x_if_eq k180_160 (t := 167) rfl ⟨by omega, by omega⟩ (fun c481 => ?_) (fun c481 => by exfalso; omega)
            refine x_A k180_167 (fun _ => rfl) ?_
            refine x_A k180_168 (fun _ => rfl) ?_
            refine x_A k180_170 (fun _ => rfl) ?_
            refine x_callV k180_172 (y := 177) (n := 2) (w0 := 0) (w1 := 2) (as := [vi x4, vi x6]) (rest := []) (by decide +kernel) (q := 256) (nq := 62) (kq := 15) ⟨by decide, rfl⟩ rfl rfl rfl rfl (xe_mono (C_X11_fails_256 s hG x4 ⟨by omega, by omega⟩ x6 ⟨by omega, by omega⟩) ?_)
            rintro s483 v ⟨hG_s483, t_s483, z482, rfl, g_z482⟩
            have f_s483 : FL [4133, 4136, 4132] s0 s483 := f.tr t_s483 (by decide)
            have q484 : s483 256 36 = x1000 := (t_s483 256 36 (show 4133 ∉ [4132] from by decide)).trans e_x1000.symm
            have q485 : s483 256 34 = x1001 := (t_s483 256 34 (show 4131 ∉ [4132] from by decide)).trans e_x1001.symm
            have q486 : s483 256 39 = x1002 := (t_s483 256 39 (show 4136 ∉ [4132] from by decide)).trans e_x1002.symm
            have q487 : s483 283 x1000.toNat = z445 := (t_s483 283 x1000.toNat (show 5824 ∉ [4132] from by decide)).trans e_z445.symm
            show xe none 180 175 [(0, .ref 256), (1, vi x1), (2, vi x2), (3, vi x3), (4, vi x4), (5, vi x5), (6, vi x6)] [vi z482] s483 0 0 _
            exact x_iret k180_175 rfl ⟨hG_s483, f_s483, z482, rfl, ⟨by omega, by omega⟩⟩
        · skip
          refine x_A k180_140 (fun _ => rfl) ?_
          refine x_A k180_141 (fun _ => rfl) ?_
          refine x_A k180_142 (fun _ => rfl) ?_
          refine x_callV k180_144 (y := 177) (n := 2) (w0 := 0) (w1 := 2) (as := [vi 2, vi x6]) (rest := []) (by decide +kernel) (q := 256) (nq := 62) (kq := 15) ⟨by decide, rfl⟩ rfl rfl rfl rfl (xe_mono (C_X11_fails_256 s hG 2 ⟨by omega, by omega⟩ x6 ⟨by omega, by omega⟩) ?_)
          rintro s489 v ⟨hG_s489, t_s489, z488, rfl, g_z488⟩
          have f_s489 : FL [4133, 4136, 4132] s0 s489 := f.tr t_s489 (by decide)
          have q490 : s489 256 36 = x1000 := (t_s489 256 36 (show 4133 ∉ [4132] from by decide)).trans e_x1000.symm
          have q491 : s489 256 34 = x1001 := (t_s489 256 34 (show 4131 ∉ [4132] from by decide)).trans e_x1001.symm
          have q492 : s489 256 39 = x1002 := (t_s489 256 39 (show 4136 ∉ [4132] from by decide)).trans e_x1002.symm
          have q493 : s489 283 x1000.toNat = z445 := (t_s489 283 x1000.toNat (show 5824 ∉ [4132] from by decide)).trans e_z445.symm
          show xe none 180 147 [(0, .ref 256), (1, vi x1), (2, vi x2), (3, vi x3), (4, vi x4), (5, vi x5), (6, vi x6)] [vi z488] s489 0 0 _
          exact x_iret k180_147 rfl ⟨hG_s489, f_s489, z488, rfl, ⟨by omega, by omega⟩⟩
theorem C_X11_readNumber_256 (s0 : xS) (hG0 : GI s0) (a : Int) (b_a : (-2147483648) ≤ a ∧ a ≤ 2147483647) (b : Int) (b_b : (-2147483648) ≤ b ∧ b ≤ 2147483647) (d : Int) (b_d : (-2147483648) ≤ d ∧ d ≤ 2147483647) (e : Int) (b_e : (-2147483648) ≤ e ∧ e ≤ 2147483647) : xe none 180 0 (lv_args 0 [.ref 256, vi a, vi b, vi d, vi e]) [] s0 0 0 (fun s' v => GI s' ∧ FL [4133, 4136, 4132] s0 s' ∧ ∃ z, v = some (vi z) ∧ ((-2147483648) ≤ z ∧ z ≤ 2147483647)) := by
  have f0 : FL [4133, 4136, 4132] s0 s0 := FL.rf
  show xe none 180 0 [(0, .ref 256), (1, vi a), (2, vi b), (3, vi d), (4, vi e)] [] s0 0 0 _
  refine x_A k180_0 (fun _ => rfl) ?_
  refine x_callV k180_1 (y := 176) (n := 0) (w0 := 0) (w1 := 0) (as := []) (rest := []) (by decide +kernel) (q := 256) (nq := 62) (kq := 15) ⟨by decide, rfl⟩ rfl rfl rfl rfl (xe_mono (C_X11_here_256 s0 hG0) ?_)
  rintro s495 v ⟨hG_s495, t_s495, z494, rfl, g_z494, xp_z494⟩
  have f_s495 : FL [4133, 4136, 4132] s0 s495 := f0.tr t_s495 (by decide)
  show xe none 180 4 [(0, .ref 256), (1, vi a), (2, vi b), (3, vi d), (4, vi e)] [vi z494] s495 0 0 _
  refine x_istore k180_4 (ls' := [(5, vi z494), (0, .ref 256), (1, vi a), (2, vi b), (3, vi d), (4, vi e)]) (by decide) rfl ?_
  refine x_A k180_6 (fun _ => rfl) ?_
  refine x_i2l k180_8 ⟨by omega, by omega⟩ ?_
  refine x_ldc2 k180_9 (z := 48) rfl (by decide +kernel) ?_
  refine x_ldc2 k180_12 (z := 57) rfl (by decide +kernel) ?_
  refine x_callS k180_15 (y := 136) (n := 3) (w0 := 0) (w1 := 6) (as := [vj z494, vj 48, vj 57]) (rest := []) (by decide +kernel) rfl rfl rfl rfl (xe_mono (C_X11_in s495 hG_s495 z494 ⟨by omega, by omega⟩ 48 ⟨by omega, by omega⟩ 57 ⟨by omega, by omega⟩) ?_)
  rintro s497 v ⟨h_s497, z496, rfl, hz_z496⟩
  rw [h_s497]
  rcases hz_z496 with ⟨c_z496, e_z496⟩ | ⟨c_z496, e_z496⟩
  · rw [e_z496]
    show xe none 180 18 [(5, vi z494), (0, .ref 256), (1, vi a), (2, vi b), (3, vi d), (4, vi e)] [vi 1] s495 0 0 _
    refine x_if_ne k180_18 (t := 31) rfl ⟨by omega, by omega⟩ (fun c498 => ?_) (fun c498 => by exfalso; omega)
    refine x_A k180_31 (fun _ => rfl) ?_
    refine x_getI k180_32 (f := 36) rfl (q := 256) (n := 62) (kd := 15) ⟨by decide, rfl⟩ (by decide) rfl ?_
    refine x_top (fun z499 e_z499 => ?_)
    have g_z499 : (0 : Int) ≤ s495 256 36 ∧ s495 256 36 ≤ 160 := hG_s495 256 36
    refine x_istore k180_35 (ls' := [(6, vi z499), (5, vi z494), (0, .ref 256), (1, vi a), (2, vi b), (3, vi d), (4, vi e)]) (by decide) rfl ?_
    refine x_A k180_37 (fun _ => rfl) ?_
    refine x_A k180_38 (fun _ => rfl) ?_
    refine x_putI k180_39 (f := 39) rfl (q := 256) (n := 62) (kd := 15) ⟨by decide, rfl⟩ rfl rfl rfl ?_
    refine x_nh (fun s500 e_s500 => ?_)
    have hG_s500 : GI s500 := by rw [e_s500]; exact hG_s495.up (show 0 ≤ 0 ∧ 0 ≤ 1100000 from ⟨by omega, by omega⟩)
    have f_s500 : FL [4133, 4136, 4132] s0 s500 := by rw [e_s500]; exact f_s495.up (show 4136 ∈ [4133, 4136, 4132] from by decide)
    have q501 : s500 256 36 = z499 := by rw [e_s500, x_up_i (by decide)]; exact e_z499.symm
    have q502 : s500 256 39 = 0 := by rw [e_s500]; exact x_up_same
    obtain ⟨z503, e_z503⟩ : ∃ z, z = s500 256 34 := ⟨_, rfl⟩
    have g_z503 : (0 : Int) ≤ s500 256 34 ∧ s500 256 34 ≤ 160 := hG_s500 256 34
    refine x_ls (l := [(0, .ref 256), (1, vi a), (2, vi b), (3, vi d), (4, vi e), (5, vi z494), (6, vi z499)]) (show ([0, 1, 2, 3, 4, 5, 6] : List Nat).Nodup from by decide) ⟨rfl, rfl, rfl, rfl, rfl, rfl, rfl, trivial⟩ ?_
    exact L_C_X11_readNumber_256_42 s0  (((160 - z499) + 1 : Int)).toNat s500 a b d e z494 z499 z499 z503 0 hG_s500 f_s500 ⟨by omega, by omega⟩ ⟨by omega, by omega⟩ ⟨by omega, by omega⟩ ⟨by omega, by omega⟩ ⟨by omega, by omega⟩ ⟨by omega, by omega⟩ ⟨by omega, by omega⟩ ⟨by omega, by omega⟩ ⟨by omega, by omega⟩ (by omega) (q501).symm (e_z503.symm).symm (q502).symm  (by omega)
  · rw [e_z496]
    show xe none 180 18 [(5, vi z494), (0, .ref 256), (1, vi a), (2, vi b), (3, vi d), (4, vi e)] [vi 0] s495 0 0 _
    refine x_if_ne k180_18 (t := 31) rfl ⟨by omega, by omega⟩ (fun c504 => by exfalso; omega) (fun c504 => ?_)
    refine x_A k180_21 (fun _ => rfl) ?_
    refine x_A k180_22 (fun _ => rfl) ?_
    refine x_A k180_23 (fun _ => rfl) ?_
    refine x_getI k180_24 (f := 36) rfl (q := 256) (n := 62) (kd := 15) ⟨by decide, rfl⟩ (by decide) rfl ?_
    refine x_top (fun z505 e_z505 => ?_)
    have g_z505 : (0 : Int) ≤ s495 256 36 ∧ s495 256 36 ≤ 160 := hG_s495 256 36
    refine x_callV k180_27 (y := 177) (n := 2) (w0 := 0) (w1 := 2) (as := [vi 1, vi z505]) (rest := []) (by decide +kernel) (q := 256) (nq := 62) (kq := 15) ⟨by decide, rfl⟩ rfl rfl rfl rfl (xe_mono (C_X11_fails_256 s495 hG_s495 1 ⟨by omega, by omega⟩ z505 ⟨by omega, by omega⟩) ?_)
    rintro s507 v ⟨hG_s507, t_s507, z506, rfl, g_z506⟩
    have f_s507 : FL [4133, 4136, 4132] s0 s507 := f_s495.tr t_s507 (by decide)
    have q508 : s507 256 36 = z505 := (t_s507 256 36 (show 4133 ∉ [4132] from by decide)).trans e_z505.symm
    show xe none 180 30 [(5, vi z494), (0, .ref 256), (1, vi a), (2, vi b), (3, vi d), (4, vi e)] [vi z506] s507 0 0 _
    exact x_iret k180_30 rfl ⟨hG_s507, f_s507, z506, rfl, ⟨by omega, by omega⟩⟩
