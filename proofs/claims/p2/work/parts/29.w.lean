theorem L_C_X11_readNumber_256_42 (s0 : xS) (a : Int) (b_a : (-2147483648) ≤ a ∧ a ≤ 2147483647) (b : Int) (b_b : (-2147483648) ≤ b ∧ b ≤ 2147483647) (d : Int) (b_d : (-2147483648) ≤ d ∧ d ≤ 2147483647) (e : Int) (b_e : 1 ≤ e ∧ e ≤ 5)  : ∀ (n : Nat) (s : xS) (x1 : Int) (x2 : Int) (x3 : Int) (x4 : Int) (x5 : Int) (x6 : Int) (x1000 : Int) (x1001 : Int) (x1002 : Int) (hG : GI s) (f : FL [4133, 4136, 4132] s0 s) (b_x1 : (-2147483648) ≤ x1 ∧ x1 ≤ 2147483647) (b_x2 : (-2147483648) ≤ x2 ∧ x2 ≤ 2147483647) (b_x3 : (-2147483648) ≤ x3 ∧ x3 ≤ 2147483647) (b_x4 : 1 ≤ x4 ∧ x4 ≤ 5) (b_x5 : 48 ≤ x5 ∧ x5 ≤ 57) (b_x6 : 0 ≤ x6 ∧ x6 ≤ 160) (b_x1000 : 0 ≤ x1000 ∧ x1000 ≤ 160) (b_x1001 : 0 ≤ x1001 ∧ x1001 ≤ 160) (b_x1002 : 0 ≤ x1002 ∧ x1002 ≤ 1100000) (r_6_1000 : x6 ≤ x1000 + 0) (r_4_5 : x4 ≤ x5 + 0) (w_0 : x1 = a) (w_1 : x2 = b) (w_2 : s0 256 36 ≤ x1000) (w_3 : s0 256 36 ≤ x1001 → x1000 ≤ x1001) (w_4 : x6 ≤ x1000) (w_5 : s0 256 36 ≤ x6) (e_x1000 : x1000 = s 256 36) (e_x1001 : x1001 = s 256 34) (e_x1002 : x1002 = s 256 39)  (hm : (160 - x1000) < (n : Int)), xe none 180 42 [(0, .ref 256), (1, vi x1), (2, vi x2), (3, vi x3), (4, vi x4), (5, vi x5), (6, vi x6)] [] s 0 0 (fun s' v => GI s' ∧ FL [4133, 4136, 4132] s0 s' ∧ ∃ z, v = some (vi z) ∧ (0 ≤ z ∧ z ≤ 5) ∧ ((z = 0 → a ≤ s' 256 39 ∧ s' 256 39 ≤ b) ∧ s0 256 36 ≤ s' 256 36 ∧ (s0 256 36 ≤ s' 256 34 → s' 256 36 ≤ s' 256 34))) := by
  intro n
  induction n with
  | zero => intro s x1 x2 x3 x4 x5 x6 x1000 x1001 x1002 hG f b_x1 b_x2 b_x3 b_x4 b_x5 b_x6 b_x1000 b_x1001 b_x1002 r_6_1000 r_4_5 w_0 w_1 w_2 w_3 w_4 w_5 e_x1000 e_x1001 e_x1002  hm; exfalso; omega
  | succ n ih =>
    intro s x1 x2 x3 x4 x5 x6 x1000 x1001 x1002 hG f b_x1 b_x2 b_x3 b_x4 b_x5 b_x6 b_x1000 b_x1001 b_x1002 r_6_1000 r_4_5 w_0 w_1 w_2 w_3 w_4 w_5 e_x1000 e_x1001 e_x1002  hm
    refine x_A k180_42 (fun _ => rfl) ?_
    refine x_getI k180_43 (f := 36) rfl (q := 256) (n := 62) (kd := 15) ⟨by decide, rfl⟩ (by decide) rfl ?_
    rw [e_x1000.symm]
    refine x_A k180_46 (fun _ => rfl) ?_
    refine x_getI k180_47 (f := 34) rfl (q := 256) (n := 62) (kd := 15) ⟨by decide, rfl⟩ (by decide) rfl ?_
    rw [e_x1001.symm]
    refine x_ic_ge k180_50 (t := 129) rfl (by first | exact x_rb b_x1000 rfl rfl | exact ⟨by omega, by omega⟩) (by first | exact x_rb b_x1001 rfl rfl | exact ⟨by omega, by omega⟩) (fun c366 => ?_) (fun c366 => ?_)
    · skip
      refine x_A k180_129 (fun _ => rfl) ?_
      refine x_getI k180_130 (f := 36) rfl (q := 256) (n := 62) (kd := 15) ⟨by decide, rfl⟩ (by decide) rfl ?_
      rw [e_x1000.symm]
      refine x_A k180_133 (fun _ => rfl) ?_
      refine x_isub k180_135 ?_
      refine x_top (fun z367 e_z367 => ?_)
      refine x_A k180_136 (fun _ => rfl) ?_
      refine x_ic_le k180_137 (t := 148) rfl (by first | exact x_rbe e_z367 g_z367 rfl rfl | exact x_rb g_z367 rfl rfl | exact ⟨by omega, by omega⟩) (by first | exact x_rb b_x3 rfl rfl | exact ⟨by omega, by omega⟩) (fun c368 => ?_) (fun c368 => ?_)
      · skip
        refine x_A k180_148 (fun _ => rfl) ?_
        refine x_getI k180_149 (f := 39) rfl (q := 256) (n := 62) (kd := 15) ⟨by decide, rfl⟩ (by decide) rfl ?_
        rw [e_x1002.symm]
        refine x_i2l k180_152 (by first | exact x_rb b_x1002 rfl rfl | exact ⟨by omega, by omega⟩) ?_
        refine x_A k180_153 (fun _ => rfl) ?_
        refine x_i2l k180_154 (by first | exact x_rb b_x1 rfl rfl | exact ⟨by omega, by omega⟩) ?_
        refine x_A k180_155 (fun _ => rfl) ?_
        refine x_i2l k180_156 (by first | exact x_rb b_x2 rfl rfl | exact ⟨by omega, by omega⟩) ?_
        refine x_callS k180_157 (y := 136) (n := 3) (w0 := 0) (w1 := 6) (as := [vj x1002, vj x1, vj x2]) (rest := []) (by decide +kernel) rfl rfl rfl rfl (xe_mono (C_X11_in s hG x1002 ⟨by omega, by omega⟩ x1 ⟨by omega, by omega⟩ x2 ⟨by omega, by omega⟩) ?_)
        rintro s370 v ⟨h_s370, z369, rfl, hz_z369⟩
        rw [h_s370]
        rcases hz_z369 with ⟨c_z369, e_z369⟩ | ⟨c_z369, e_z369⟩
        · rw [e_z369]
          show xe none 180 160 [(0, .ref 256), (1, vi x1), (2, vi x2), (3, vi x3), (4, vi x4), (5, vi x5), (6, vi x6)] [vi 1] s 0 0 _
          refine x_if_eq k180_160 (t := 167) rfl ⟨by decide, by decide⟩ (fun c371 => by exfalso; omega) (fun c371 => ?_)
          refine x_A k180_163 (fun _ => rfl) ?_
          refine x_goto k180_164 (t := 175) rfl ?_
          exact x_iret k180_175 rfl ⟨hG, f, 0, rfl, ⟨by decide, by decide⟩, by omega⟩
        · rw [e_z369]
          show xe none 180 160 [(0, .ref 256), (1, vi x1), (2, vi x2), (3, vi x3), (4, vi x4), (5, vi x5), (6, vi x6)] [vi 0] s 0 0 _
          refine x_if_eq k180_160 (t := 167) rfl ⟨by decide, by decide⟩ (fun c372 => ?_) (fun c372 => by exfalso; omega)
          refine x_A k180_167 (fun _ => rfl) ?_
          refine x_A k180_168 (fun _ => rfl) ?_
          refine x_A k180_170 (fun _ => rfl) ?_
          refine x_callV k180_172 (y := 177) (n := 2) (w0 := 0) (w1 := 2) (as := [vi x4, vi x6]) (rest := []) (by decide +kernel) (q := 256) (nq := 62) (kq := 15) ⟨by decide, rfl⟩ rfl rfl rfl rfl (xe_mono (C_X11_fails_256 s hG x4 (by first | exact x_rb b_x4 rfl rfl | exact ⟨by omega, by omega⟩) x6 (by first | exact x_rb b_x6 rfl rfl | exact ⟨by omega, by omega⟩)) ?_)
          rintro s374 v ⟨hG_s374, t_s374, z373, rfl, g_z373, xp_z373⟩
          have f_s374 : FL [4133, 4136, 4132] s0 s374 := f.tr t_s374 (by decide +kernel)
          have q375 : s374 256 36 = x1000 := (t_s374 256 36 (show 4133 ∉ [4132] from by decide +kernel)).trans e_x1000.symm
          have q376 : s374 256 34 = x1001 := (t_s374 256 34 (show 4131 ∉ [4132] from by decide +kernel)).trans e_x1001.symm
          have q377 : s374 256 39 = x1002 := (t_s374 256 39 (show 4136 ∉ [4132] from by decide +kernel)).trans e_x1002.symm
          show xe none 180 175 [(0, .ref 256), (1, vi x1), (2, vi x2), (3, vi x3), (4, vi x4), (5, vi x5), (6, vi x6)] [vi z373] s374 0 0 _
          exact x_iret k180_175 rfl ⟨hG_s374, f_s374, z373, rfl, (by first | exact x_rbe e_z373 g_z373 rfl rfl | exact x_rb g_z373 rfl rfl | exact ⟨by omega, by omega⟩), by omega⟩
      · skip
        refine x_A k180_140 (fun _ => rfl) ?_
        refine x_A k180_141 (fun _ => rfl) ?_
        refine x_A k180_142 (fun _ => rfl) ?_
        refine x_callV k180_144 (y := 177) (n := 2) (w0 := 0) (w1 := 2) (as := [vi 2, vi x6]) (rest := []) (by decide +kernel) (q := 256) (nq := 62) (kq := 15) ⟨by decide, rfl⟩ rfl rfl rfl rfl (xe_mono (C_X11_fails_256 s hG 2 ⟨by decide, by decide⟩ x6 (by first | exact x_rb b_x6 rfl rfl | exact ⟨by omega, by omega⟩)) ?_)
        rintro s379 v ⟨hG_s379, t_s379, z378, rfl, g_z378, xp_z378⟩
        have f_s379 : FL [4133, 4136, 4132] s0 s379 := f.tr t_s379 (by decide +kernel)
        have q380 : s379 256 36 = x1000 := (t_s379 256 36 (show 4133 ∉ [4132] from by decide +kernel)).trans e_x1000.symm
        have q381 : s379 256 34 = x1001 := (t_s379 256 34 (show 4131 ∉ [4132] from by decide +kernel)).trans e_x1001.symm
        have q382 : s379 256 39 = x1002 := (t_s379 256 39 (show 4136 ∉ [4132] from by decide +kernel)).trans e_x1002.symm
        show xe none 180 147 [(0, .ref 256), (1, vi x1), (2, vi x2), (3, vi x3), (4, vi x4), (5, vi x5), (6, vi x6)] [vi z378] s379 0 0 _
        exact x_iret k180_147 rfl ⟨hG_s379, f_s379, z378, rfl, (by first | exact x_rbe e_z378 g_z378 rfl rfl | exact x_rb g_z378 rfl rfl | exact ⟨by omega, by omega⟩), by omega⟩
    · skip
      refine x_A k180_53 (fun _ => rfl) ?_
      refine x_getR k180_54 (f := 33) rfl (q := 256) (n := 62) (kd := 15) ⟨by decide, rfl⟩ (q2 := 283) (by decide) rfl ?_
      refine x_A k180_57 (fun _ => rfl) ?_
      refine x_getI k180_58 (f := 36) rfl (q := 256) (n := 62) (kd := 15) ⟨by decide, rfl⟩ (by decide) rfl ?_
      rw [e_x1000.symm]
      refine x_iald k180_61 (q := 283) (n := 160) ⟨by decide, rfl⟩ (by decide) (by first | exact x_rbl b_x1000 rfl rfl | exact ⟨by omega, by omega⟩) ?_
      refine x_top (fun z383 e_z383 => ?_)
      have g_z383 : (0 : Int) ≤ s 283 x1000.toNat ∧ s 283 x1000.toNat ≤ 255 := hG 283 x1000.toNat
      refine x_i2l k180_62 (by first | exact x_rbe e_z383 g_z383 rfl rfl | exact x_rb g_z383 rfl rfl | exact ⟨by omega, by omega⟩) ?_
      refine x_ldc2 k180_63 (z := 48) rfl (by decide +kernel) ?_
      refine x_ldc2 k180_66 (z := 57) rfl (by decide +kernel) ?_
      refine x_callS k180_69 (y := 136) (n := 3) (w0 := 0) (w1 := 6) (as := [vj z383, vj 48, vj 57]) (rest := []) (by decide +kernel) rfl rfl rfl rfl (xe_mono (C_X11_in s hG z383 ⟨by omega, by omega⟩ 48 ⟨by omega, by omega⟩ 57 ⟨by omega, by omega⟩) ?_)
      rintro s385 v ⟨h_s385, z384, rfl, hz_z384⟩
      rw [h_s385]
      rcases hz_z384 with ⟨c_z384, e_z384⟩ | ⟨c_z384, e_z384⟩
      · rw [e_z384]
        show xe none 180 72 [(0, .ref 256), (1, vi x1), (2, vi x2), (3, vi x3), (4, vi x4), (5, vi x5), (6, vi x6)] [vi 1] s 0 0 _
        refine x_if_eq k180_72 (t := 129) rfl ⟨by decide, by decide⟩ (fun c386 => by exfalso; omega) (fun c386 => ?_)
        refine x_A k180_75 (fun _ => rfl) ?_
        refine x_A k180_76 (fun _ => rfl) ?_
        refine x_getI k180_77 (f := 39) rfl (q := 256) (n := 62) (kd := 15) ⟨by decide, rfl⟩ (by decide) rfl ?_
        rw [e_x1002.symm]
        refine x_ldcwI k180_80 (z := 100000) rfl (by decide +kernel) ?_
        refine x_ic_le k180_83 (t := 93) rfl (by first | exact x_rb b_x1002 rfl rfl | exact ⟨by omega, by omega⟩) ⟨by decide, by decide⟩ (fun c387 => ?_) (fun c387 => ?_)
        · skip
          refine x_bipush k180_93 (by decide +kernel) ?_
          refine x_A k180_95 (fun _ => rfl) ?_
          refine x_getI k180_96 (f := 39) rfl (q := 256) (n := 62) (kd := 15) ⟨by decide, rfl⟩ (by decide) rfl ?_
          rw [e_x1002.symm]
          refine x_imul k180_99 ?_
          refine x_top (fun z388 e_z388 => ?_)
          refine x_A k180_100 (fun _ => rfl) ?_
          refine x_getR k180_101 (f := 33) rfl (q := 256) (n := 62) (kd := 15) ⟨by decide, rfl⟩ (q2 := 283) (by decide) rfl ?_
          refine x_A k180_104 (fun _ => rfl) ?_
          refine x_getI k180_105 (f := 36) rfl (q := 256) (n := 62) (kd := 15) ⟨by decide, rfl⟩ (by decide) rfl ?_
          rw [e_x1000.symm]
          refine x_iald k180_108 (q := 283) (n := 160) ⟨by decide, rfl⟩ (by decide) (by first | exact x_rbl b_x1000 rfl rfl | exact ⟨by omega, by omega⟩) ?_
          rw [e_z383.symm]
          refine x_iadd k180_109 ?_
          refine x_top (fun z389 e_z389 => ?_)
          refine x_bipush k180_110 (by decide +kernel) ?_
          refine x_isub k180_112 ?_
          refine x_top (fun z390 e_z390 => ?_)
          refine x_putI k180_113 (f := 39) rfl (q := 256) (n := 62) (kd := 15) ⟨by decide, rfl⟩ rfl rfl rfl ?_
          refine x_nh (fun s391 e_s391 => ?_)
          have hG_s391 : GI s391 := by rw [e_s391]; exact hG.up (show 0 ≤ z390 ∧ z390 ≤ 1100000 from (by first | exact x_rbe e_z390 g_z390 rfl rfl | exact x_rb g_z390 rfl rfl | exact ⟨by omega, by omega⟩))
          have f_s391 : FL [4133, 4136, 4132] s0 s391 := by rw [e_s391]; exact f.up (show 4136 ∈ [4133, 4136, 4132] from by decide +kernel)
          have q392 : s391 256 36 = x1000 := by rw [e_s391, x_up_i (by decide)]; exact e_x1000.symm
          have q393 : s391 256 34 = x1001 := by rw [e_s391, x_up_i (by decide)]; exact e_x1001.symm
          have q394 : s391 256 39 = z390 := by rw [e_s391]; exact x_up_same
          have q395 : s391 283 x1000.toNat = z383 := by rw [e_s391, x_up_q (by first | decide | omega)]; exact e_z383.symm
          refine x_A k180_116 (fun _ => rfl) ?_
          refine x_A k180_117 (fun _ => rfl) ?_
          refine x_getI k180_118 (f := 36) rfl (q := 256) (n := 62) (kd := 15) ⟨by decide, rfl⟩ (by decide) rfl ?_
          rw [q392]
          refine x_A k180_121 (fun _ => rfl) ?_
          refine x_iadd k180_122 ?_
          refine x_top (fun z396 e_z396 => ?_)
          refine x_putI k180_123 (f := 36) rfl (q := 256) (n := 62) (kd := 15) ⟨by decide, rfl⟩ rfl rfl rfl ?_
          refine x_nh (fun s397 e_s397 => ?_)
          have hG_s397 : GI s397 := by rw [e_s397]; exact hG_s391.up (show 0 ≤ z396 ∧ z396 ≤ 160 from (by first | exact x_rbe e_z396 g_z396 rfl rfl | exact x_rb g_z396 rfl rfl | exact ⟨by omega, by omega⟩))
          have f_s397 : FL [4133, 4136, 4132] s0 s397 := by rw [e_s397]; exact f_s391.up (show 4133 ∈ [4133, 4136, 4132] from by decide +kernel)
          have q398 : s397 256 34 = x1001 := by rw [e_s397, x_up_i (by decide)]; exact q393
          have q399 : s397 256 39 = z390 := by rw [e_s397, x_up_i (by decide)]; exact q394
          have q400 : s397 256 36 = z396 := by rw [e_s397]; exact x_up_same
          have q401 : s397 283 x1000.toNat = z383 := by rw [e_s397, x_up_q (by first | decide | omega)]; exact q395
          refine x_goto k180_126 (t := 42) rfl ?_
          refine x_ls (l := [(0, .ref 256), (1, vi x1), (2, vi x2), (3, vi x3), (4, vi x4), (5, vi x5), (6, vi x6)]) (show ([0, 1, 2, 3, 4, 5, 6] : List Nat).Nodup from by decide +kernel) ⟨rfl, rfl, rfl, rfl, rfl, rfl, rfl, trivial⟩ ?_
          exact ih s397 x1 x2 x3 x4 x5 x6 z396 x1001 z390 hG_s397 f_s397 (by first | exact x_rb b_x1 rfl rfl | exact ⟨by omega, by omega⟩) (by first | exact x_rb b_x2 rfl rfl | exact ⟨by omega, by omega⟩) (by first | exact x_rb b_x3 rfl rfl | exact ⟨by omega, by omega⟩) (by first | exact x_rb b_x4 rfl rfl | exact ⟨by omega, by omega⟩) (by first | exact x_rb b_x5 rfl rfl | exact ⟨by omega, by omega⟩) (by first | exact x_rb b_x6 rfl rfl | exact ⟨by omega, by omega⟩) (by first | exact x_rbe e_z396 g_z396 rfl rfl | exact x_rb g_z396 rfl rfl | exact ⟨by omega, by omega⟩) (by first | exact x_rb b_x1001 rfl rfl | exact ⟨by omega, by omega⟩) (by first | exact x_rbe e_z390 g_z390 rfl rfl | exact x_rb g_z390 rfl rfl | exact ⟨by omega, by omega⟩) (by omega) (by omega) (by omega) (by omega) (by omega) (by omega) (by omega) (by omega) (q400).symm (q398).symm (q399).symm  (by omega)
        · skip
          refine x_A k180_86 (fun _ => rfl) ?_
          refine x_getI k180_87 (f := 39) rfl (q := 256) (n := 62) (kd := 15) ⟨by decide, rfl⟩ (by decide) rfl ?_
          rw [e_x1002.symm]
          refine x_goto k180_90 (t := 113) rfl ?_
          refine x_putI k180_113 (f := 39) rfl (q := 256) (n := 62) (kd := 15) ⟨by decide, rfl⟩ rfl rfl rfl ?_
          refine x_nh (fun s402 e_s402 => ?_)
          have hG_s402 : GI s402 := by rw [e_s402]; exact hG.up (show 0 ≤ x1002 ∧ x1002 ≤ 1100000 from (by first | exact x_rb b_x1002 rfl rfl | exact ⟨by omega, by omega⟩))
          have f_s402 : FL [4133, 4136, 4132] s0 s402 := by rw [e_s402]; exact f.up (show 4136 ∈ [4133, 4136, 4132] from by decide +kernel)
          have q403 : s402 256 36 = x1000 := by rw [e_s402, x_up_i (by decide)]; exact e_x1000.symm
          have q404 : s402 256 34 = x1001 := by rw [e_s402, x_up_i (by decide)]; exact e_x1001.symm
          have q405 : s402 256 39 = x1002 := by rw [e_s402]; exact x_up_same
          have q406 : s402 283 x1000.toNat = z383 := by rw [e_s402, x_up_q (by first | decide | omega)]; exact e_z383.symm
          refine x_A k180_116 (fun _ => rfl) ?_
          refine x_A k180_117 (fun _ => rfl) ?_
          refine x_getI k180_118 (f := 36) rfl (q := 256) (n := 62) (kd := 15) ⟨by decide, rfl⟩ (by decide) rfl ?_
          rw [q403]
          refine x_A k180_121 (fun _ => rfl) ?_
          refine x_iadd k180_122 ?_
          refine x_top (fun z407 e_z407 => ?_)
          refine x_putI k180_123 (f := 36) rfl (q := 256) (n := 62) (kd := 15) ⟨by decide, rfl⟩ rfl rfl rfl ?_
          refine x_nh (fun s408 e_s408 => ?_)
          have hG_s408 : GI s408 := by rw [e_s408]; exact hG_s402.up (show 0 ≤ z407 ∧ z407 ≤ 160 from (by first | exact x_rbe e_z407 g_z407 rfl rfl | exact x_rb g_z407 rfl rfl | exact ⟨by omega, by omega⟩))
          have f_s408 : FL [4133, 4136, 4132] s0 s408 := by rw [e_s408]; exact f_s402.up (show 4133 ∈ [4133, 4136, 4132] from by decide +kernel)
          have q409 : s408 256 34 = x1001 := by rw [e_s408, x_up_i (by decide)]; exact q404
          have q410 : s408 256 39 = x1002 := by rw [e_s408, x_up_i (by decide)]; exact q405
          have q411 : s408 256 36 = z407 := by rw [e_s408]; exact x_up_same
          have q412 : s408 283 x1000.toNat = z383 := by rw [e_s408, x_up_q (by first | decide | omega)]; exact q406
          refine x_goto k180_126 (t := 42) rfl ?_
          refine x_ls (l := [(0, .ref 256), (1, vi x1), (2, vi x2), (3, vi x3), (4, vi x4), (5, vi x5), (6, vi x6)]) (show ([0, 1, 2, 3, 4, 5, 6] : List Nat).Nodup from by decide +kernel) ⟨rfl, rfl, rfl, rfl, rfl, rfl, rfl, trivial⟩ ?_
          exact ih s408 x1 x2 x3 x4 x5 x6 z407 x1001 x1002 hG_s408 f_s408 (by first | exact x_rb b_x1 rfl rfl | exact ⟨by omega, by omega⟩) (by first | exact x_rb b_x2 rfl rfl | exact ⟨by omega, by omega⟩) (by first | exact x_rb b_x3 rfl rfl | exact ⟨by omega, by omega⟩) (by first | exact x_rb b_x4 rfl rfl | exact ⟨by omega, by omega⟩) (by first | exact x_rb b_x5 rfl rfl | exact ⟨by omega, by omega⟩) (by first | exact x_rb b_x6 rfl rfl | exact ⟨by omega, by omega⟩) (by first | exact x_rbe e_z407 g_z407 rfl rfl | exact x_rb g_z407 rfl rfl | exact ⟨by omega, by omega⟩) (by first | exact x_rb b_x1001 rfl rfl | exact ⟨by omega, by omega⟩) (by first | exact x_rb b_x1002 rfl rfl | exact ⟨by omega, by omega⟩) (by omega) (by omega) (by omega) (by omega) (by omega) (by omega) (by omega) (by omega) (q411).symm (q409).symm (q410).symm  (by omega)
      · rw [e_z384]
        show xe none 180 72 [(0, .ref 256), (1, vi x1), (2, vi x2), (3, vi x3), (4, vi x4), (5, vi x5), (6, vi x6)] [vi 0] s 0 0 _
        refine x_if_eq k180_72 (t := 129) rfl ⟨by decide, by decide⟩ (fun c413 => ?_) (fun c413 => by exfalso; omega)
        refine x_A k180_129 (fun _ => rfl) ?_
        refine x_getI k180_130 (f := 36) rfl (q := 256) (n := 62) (kd := 15) ⟨by decide, rfl⟩ (by decide) rfl ?_
        rw [e_x1000.symm]
        refine x_A k180_133 (fun _ => rfl) ?_
        refine x_isub k180_135 ?_
        refine x_top (fun z414 e_z414 => ?_)
        refine x_A k180_136 (fun _ => rfl) ?_
        refine x_ic_le k180_137 (t := 148) rfl (by first | exact x_rbe e_z414 g_z414 rfl rfl | exact x_rb g_z414 rfl rfl | exact ⟨by omega, by omega⟩) (by first | exact x_rb b_x3 rfl rfl | exact ⟨by omega, by omega⟩) (fun c415 => ?_) (fun c415 => ?_)
        · skip
          refine x_A k180_148 (fun _ => rfl) ?_
          refine x_getI k180_149 (f := 39) rfl (q := 256) (n := 62) (kd := 15) ⟨by decide, rfl⟩ (by decide) rfl ?_
          rw [e_x1002.symm]
          refine x_i2l k180_152 (by first | exact x_rb b_x1002 rfl rfl | exact ⟨by omega, by omega⟩) ?_
          refine x_A k180_153 (fun _ => rfl) ?_
          refine x_i2l k180_154 (by first | exact x_rb b_x1 rfl rfl | exact ⟨by omega, by omega⟩) ?_
          refine x_A k180_155 (fun _ => rfl) ?_
          refine x_i2l k180_156 (by first | exact x_rb b_x2 rfl rfl | exact ⟨by omega, by omega⟩) ?_
          refine x_callS k180_157 (y := 136) (n := 3) (w0 := 0) (w1 := 6) (as := [vj x1002, vj x1, vj x2]) (rest := []) (by decide +kernel) rfl rfl rfl rfl (xe_mono (C_X11_in s hG x1002 ⟨by omega, by omega⟩ x1 ⟨by omega, by omega⟩ x2 ⟨by omega, by omega⟩) ?_)
          rintro s417 v ⟨h_s417, z416, rfl, hz_z416⟩
          rw [h_s417]
          rcases hz_z416 with ⟨c_z416, e_z416⟩ | ⟨c_z416, e_z416⟩
          · rw [e_z416]
            show xe none 180 160 [(0, .ref 256), (1, vi x1), (2, vi x2), (3, vi x3), (4, vi x4), (5, vi x5), (6, vi x6)] [vi 1] s 0 0 _
            refine x_if_eq k180_160 (t := 167) rfl ⟨by decide, by decide⟩ (fun c418 => by exfalso; omega) (fun c418 => ?_)
            refine x_A k180_163 (fun _ => rfl) ?_
            refine x_goto k180_164 (t := 175) rfl ?_
            exact x_iret k180_175 rfl ⟨hG, f, 0, rfl, ⟨by decide, by decide⟩, by omega⟩
          · rw [e_z416]
            show xe none 180 160 [(0, .ref 256), (1, vi x1), (2, vi x2), (3, vi x3), (4, vi x4), (5, vi x5), (6, vi x6)] [vi 0] s 0 0 _
            refine x_if_eq k180_160 (t := 167) rfl ⟨by decide, by decide⟩ (fun c419 => ?_) (fun c419 => by exfalso; omega)
            refine x_A k180_167 (fun _ => rfl) ?_
            refine x_A k180_168 (fun _ => rfl) ?_
            refine x_A k180_170 (fun _ => rfl) ?_
            refine x_callV k180_172 (y := 177) (n := 2) (w0 := 0) (w1 := 2) (as := [vi x4, vi x6]) (rest := []) (by decide +kernel) (q := 256) (nq := 62) (kq := 15) ⟨by decide, rfl⟩ rfl rfl rfl rfl (xe_mono (C_X11_fails_256 s hG x4 (by first | exact x_rb b_x4 rfl rfl | exact ⟨by omega, by omega⟩) x6 (by first | exact x_rb b_x6 rfl rfl | exact ⟨by omega, by omega⟩)) ?_)
            rintro s421 v ⟨hG_s421, t_s421, z420, rfl, g_z420, xp_z420⟩
            have f_s421 : FL [4133, 4136, 4132] s0 s421 := f.tr t_s421 (by decide +kernel)
            have q422 : s421 256 36 = x1000 := (t_s421 256 36 (show 4133 ∉ [4132] from by decide +kernel)).trans e_x1000.symm
            have q423 : s421 256 34 = x1001 := (t_s421 256 34 (show 4131 ∉ [4132] from by decide +kernel)).trans e_x1001.symm
            have q424 : s421 256 39 = x1002 := (t_s421 256 39 (show 4136 ∉ [4132] from by decide +kernel)).trans e_x1002.symm
            have q425 : s421 283 x1000.toNat = z383 := (t_s421 283 x1000.toNat (show 5824 ∉ [4132] from by decide +kernel)).trans e_z383.symm
            show xe none 180 175 [(0, .ref 256), (1, vi x1), (2, vi x2), (3, vi x3), (4, vi x4), (5, vi x5), (6, vi x6)] [vi z420] s421 0 0 _
            exact x_iret k180_175 rfl ⟨hG_s421, f_s421, z420, rfl, (by first | exact x_rbe e_z420 g_z420 rfl rfl | exact x_rb g_z420 rfl rfl | exact ⟨by omega, by omega⟩), by omega⟩
        · skip
          refine x_A k180_140 (fun _ => rfl) ?_
          refine x_A k180_141 (fun _ => rfl) ?_
          refine x_A k180_142 (fun _ => rfl) ?_
          refine x_callV k180_144 (y := 177) (n := 2) (w0 := 0) (w1 := 2) (as := [vi 2, vi x6]) (rest := []) (by decide +kernel) (q := 256) (nq := 62) (kq := 15) ⟨by decide, rfl⟩ rfl rfl rfl rfl (xe_mono (C_X11_fails_256 s hG 2 ⟨by decide, by decide⟩ x6 (by first | exact x_rb b_x6 rfl rfl | exact ⟨by omega, by omega⟩)) ?_)
          rintro s427 v ⟨hG_s427, t_s427, z426, rfl, g_z426, xp_z426⟩
          have f_s427 : FL [4133, 4136, 4132] s0 s427 := f.tr t_s427 (by decide +kernel)
          have q428 : s427 256 36 = x1000 := (t_s427 256 36 (show 4133 ∉ [4132] from by decide +kernel)).trans e_x1000.symm
          have q429 : s427 256 34 = x1001 := (t_s427 256 34 (show 4131 ∉ [4132] from by decide +kernel)).trans e_x1001.symm
          have q430 : s427 256 39 = x1002 := (t_s427 256 39 (show 4136 ∉ [4132] from by decide +kernel)).trans e_x1002.symm
          have q431 : s427 283 x1000.toNat = z383 := (t_s427 283 x1000.toNat (show 5824 ∉ [4132] from by decide +kernel)).trans e_z383.symm
          show xe none 180 147 [(0, .ref 256), (1, vi x1), (2, vi x2), (3, vi x3), (4, vi x4), (5, vi x5), (6, vi x6)] [vi z426] s427 0 0 _
          exact x_iret k180_147 rfl ⟨hG_s427, f_s427, z426, rfl, (by first | exact x_rbe e_z426 g_z426 rfl rfl | exact x_rb g_z426 rfl rfl | exact ⟨by omega, by omega⟩), by omega⟩
theorem C_X11_readNumber_256 (s0 : xS) (hG0 : GI s0) (a : Int) (b_a : (-2147483648) ≤ a ∧ a ≤ 2147483647) (b : Int) (b_b : (-2147483648) ≤ b ∧ b ≤ 2147483647) (d : Int) (b_d : (-2147483648) ≤ d ∧ d ≤ 2147483647) (e : Int) (b_e : 1 ≤ e ∧ e ≤ 5) : xe none 180 0 (lv_args 0 [.ref 256, vi a, vi b, vi d, vi e]) [] s0 0 0 (fun s' v => GI s' ∧ FL [4133, 4136, 4132] s0 s' ∧ ∃ z, v = some (vi z) ∧ (0 ≤ z ∧ z ≤ 5) ∧ ((z = 0 → a ≤ s' 256 39 ∧ s' 256 39 ≤ b) ∧ s0 256 36 ≤ s' 256 36 ∧ (s0 256 36 ≤ s' 256 34 → s' 256 36 ≤ s' 256 34))) := by
  have f0 : FL [4133, 4136, 4132] s0 s0 := FL.rf
  show xe none 180 0 [(0, .ref 256), (1, vi a), (2, vi b), (3, vi d), (4, vi e)] [] s0 0 0 _
  refine x_A k180_0 (fun _ => rfl) ?_
  refine x_callV k180_1 (y := 176) (n := 0) (w0 := 0) (w1 := 0) (as := []) (rest := []) (by decide +kernel) (q := 256) (nq := 62) (kq := 15) ⟨by decide, rfl⟩ rfl rfl rfl rfl (xe_mono (C_X11_here_256 s0 hG0) ?_)
  rintro s433 v ⟨hG_s433, t_s433, z432, rfl, g_z432, xp_z432⟩
  have f_s433 : FL [4133, 4136, 4132] s0 s433 := f0.tr t_s433 (by decide +kernel)
  obtain ⟨z434, e_z434⟩ : ∃ z, z = s433 256 36 := ⟨_, rfl⟩
  have g_z434 : (0 : Int) ≤ s433 256 36 ∧ s433 256 36 ≤ 160 := hG_s433 256 36
  obtain ⟨z435, e_z435⟩ : ∃ z, z = s433 256 34 := ⟨_, rfl⟩
  have g_z435 : (0 : Int) ≤ s433 256 34 ∧ s433 256 34 ≤ 160 := hG_s433 256 34
  show xe none 180 4 [(0, .ref 256), (1, vi a), (2, vi b), (3, vi d), (4, vi e)] [vi z432] s433 0 0 _
  refine x_istore k180_4 (ls' := [(5, vi z432), (0, .ref 256), (1, vi a), (2, vi b), (3, vi d), (4, vi e)]) (by decide) rfl ?_
  refine x_A k180_6 (fun _ => rfl) ?_
  refine x_i2l k180_8 (by first | exact x_rbe e_z432 g_z432 rfl rfl | exact x_rb g_z432 rfl rfl | exact ⟨by omega, by omega⟩) ?_
  refine x_ldc2 k180_9 (z := 48) rfl (by decide +kernel) ?_
  refine x_ldc2 k180_12 (z := 57) rfl (by decide +kernel) ?_
  refine x_callS k180_15 (y := 136) (n := 3) (w0 := 0) (w1 := 6) (as := [vj z432, vj 48, vj 57]) (rest := []) (by decide +kernel) rfl rfl rfl rfl (xe_mono (C_X11_in s433 hG_s433 z432 ⟨by omega, by omega⟩ 48 ⟨by omega, by omega⟩ 57 ⟨by omega, by omega⟩) ?_)
  rintro s437 v ⟨h_s437, z436, rfl, hz_z436⟩
  rw [h_s437]
  rcases hz_z436 with ⟨c_z436, e_z436⟩ | ⟨c_z436, e_z436⟩
  · rw [e_z436]
    show xe none 180 18 [(5, vi z432), (0, .ref 256), (1, vi a), (2, vi b), (3, vi d), (4, vi e)] [vi 1] s433 0 0 _
    refine x_if_ne k180_18 (t := 31) rfl ⟨by decide, by decide⟩ (fun c438 => ?_) (fun c438 => by exfalso; omega)
    refine x_A k180_31 (fun _ => rfl) ?_
    refine x_getI k180_32 (f := 36) rfl (q := 256) (n := 62) (kd := 15) ⟨by decide, rfl⟩ (by decide) rfl ?_
    rw [e_z434.symm]
    refine x_istore k180_35 (ls' := [(6, vi z434), (5, vi z432), (0, .ref 256), (1, vi a), (2, vi b), (3, vi d), (4, vi e)]) (by decide) rfl ?_
    refine x_A k180_37 (fun _ => rfl) ?_
    refine x_A k180_38 (fun _ => rfl) ?_
    refine x_putI k180_39 (f := 39) rfl (q := 256) (n := 62) (kd := 15) ⟨by decide, rfl⟩ rfl rfl rfl ?_
    refine x_nh (fun s439 e_s439 => ?_)
    have hG_s439 : GI s439 := by rw [e_s439]; exact hG_s433.up (show 0 ≤ 0 ∧ 0 ≤ 1100000 from ⟨by decide, by decide⟩)
    have f_s439 : FL [4133, 4136, 4132] s0 s439 := by rw [e_s439]; exact f_s433.up (show 4136 ∈ [4133, 4136, 4132] from by decide +kernel)
    have q440 : s439 256 36 = z434 := by rw [e_s439, x_up_i (by decide)]; exact e_z434.symm
    have q441 : s439 256 34 = z435 := by rw [e_s439, x_up_i (by decide)]; exact e_z435.symm
    have q442 : s439 256 39 = 0 := by rw [e_s439]; exact x_up_same
    refine x_ls (l := [(0, .ref 256), (1, vi a), (2, vi b), (3, vi d), (4, vi e), (5, vi z432), (6, vi z434)]) (show ([0, 1, 2, 3, 4, 5, 6] : List Nat).Nodup from by decide +kernel) ⟨rfl, rfl, rfl, rfl, rfl, rfl, rfl, trivial⟩ ?_
    exact L_C_X11_readNumber_256_42 s0 a b_a b b_b d b_d e b_e  (((160 - z434) + 1 : Int)).toNat s439 a b d e z432 z434 z434 z435 0 hG_s439 f_s439 (by first | exact x_rb b_a rfl rfl | exact ⟨by omega, by omega⟩) (by first | exact x_rb b_b rfl rfl | exact ⟨by omega, by omega⟩) (by first | exact x_rb b_d rfl rfl | exact ⟨by omega, by omega⟩) (by first | exact x_rb b_e rfl rfl | exact ⟨by omega, by omega⟩) (by first | exact x_rbe e_z432 g_z432 rfl rfl | exact x_rb g_z432 rfl rfl | exact ⟨by omega, by omega⟩) (by first | exact x_rbe e_z434 g_z434 rfl rfl | exact x_rb g_z434 rfl rfl | exact ⟨by omega, by omega⟩) (by first | exact x_rbe e_z434 g_z434 rfl rfl | exact x_rb g_z434 rfl rfl | exact ⟨by omega, by omega⟩) (by first | exact x_rbe e_z435 g_z435 rfl rfl | exact x_rb g_z435 rfl rfl | exact ⟨by omega, by omega⟩) ⟨by decide, by decide⟩ (by omega) (by omega) (by omega) (by omega) (by omega) (by omega) (by omega) (by omega) (q440).symm (q441).symm (q442).symm  (by omega)
  · rw [e_z436]
    show xe none 180 18 [(5, vi z432), (0, .ref 256), (1, vi a), (2, vi b), (3, vi d), (4, vi e)] [vi 0] s433 0 0 _
    refine x_if_ne k180_18 (t := 31) rfl ⟨by decide, by decide⟩ (fun c443 => by exfalso; omega) (fun c443 => ?_)
    refine x_A k180_21 (fun _ => rfl) ?_
    refine x_A k180_22 (fun _ => rfl) ?_
    refine x_A k180_23 (fun _ => rfl) ?_
    refine x_getI k180_24 (f := 36) rfl (q := 256) (n := 62) (kd := 15) ⟨by decide, rfl⟩ (by decide) rfl ?_
    rw [e_z434.symm]
    refine x_callV k180_27 (y := 177) (n := 2) (w0 := 0) (w1 := 2) (as := [vi 1, vi z434]) (rest := []) (by decide +kernel) (q := 256) (nq := 62) (kq := 15) ⟨by decide, rfl⟩ rfl rfl rfl rfl (xe_mono (C_X11_fails_256 s433 hG_s433 1 ⟨by decide, by decide⟩ z434 (by first | exact x_rbe e_z434 g_z434 rfl rfl | exact x_rb g_z434 rfl rfl | exact ⟨by omega, by omega⟩)) ?_)
    rintro s445 v ⟨hG_s445, t_s445, z444, rfl, g_z444, xp_z444⟩
    have f_s445 : FL [4133, 4136, 4132] s0 s445 := f_s433.tr t_s445 (by decide +kernel)
    have q446 : s445 256 36 = z434 := (t_s445 256 36 (show 4133 ∉ [4132] from by decide +kernel)).trans e_z434.symm
    have q447 : s445 256 34 = z435 := (t_s445 256 34 (show 4131 ∉ [4132] from by decide +kernel)).trans e_z435.symm
    show xe none 180 30 [(5, vi z432), (0, .ref 256), (1, vi a), (2, vi b), (3, vi d), (4, vi e)] [vi z444] s445 0 0 _
    obtain ⟨z448, e_z448⟩ : ∃ z, z = s445 256 39 := ⟨_, rfl⟩
    have g_z448 : (0 : Int) ≤ s445 256 39 ∧ s445 256 39 ≤ 1100000 := hG_s445 256 39
    exact x_iret k180_30 rfl ⟨hG_s445, f_s445, z444, rfl, (by first | exact x_rbe e_z444 g_z444 rfl rfl | exact x_rb g_z444 rfl rfl | exact ⟨by omega, by omega⟩), by omega⟩
