set_option maxHeartbeats 8000000 in
theorem L_V_X10_split_0_63 (s0 : xS) (hJ0 : J s0) (a : Int) (b_a : (-2147483648) ≤ a ∧ a ≤ 2147483647) (b : Int) (b_b : (-2147483648) ≤ b ∧ b ≤ 2147483647) (d : Int) (b_d : (-2147483648) ≤ d ∧ d ≤ 2147483647) (pR : R1 s0)  : ∀ (n : Nat) (s : xS) (x1 : Int) (x2 : Int) (x3 : Int) (x4 : Int) (x6 : Int) (x7 : Int) (x8 : Int) (hG : GI s) (f : FL [3329, 3334, 3335, 3336, 3392, 3456, 3520, 3584, 3276, 3648, 3712, 3776, 3840, 3904, 3968, 3277, 4032] s0 s) (b_x1 : 0 ≤ x1 ∧ x1 ≤ 39) (b_x2 : 0 ≤ x2 ∧ x2 ≤ 9) (b_x3 : 0 ≤ x3 ∧ x3 ≤ 1) (b_x4 : in64 x4) (b_x6 : (-1) ≤ x6 ∧ x6 ≤ 39) (b_x7 : (-1) ≤ x7 ∧ x7 ≤ 127) (b_x8 : 0 ≤ x8 ∧ x8 ≤ 40) (r_6_8 : x6 ≤ x8 + (-1)) (i_VCj : VCj s) (i_VCl : VCl s)  (hm : (40 - x8) < (n : Int)), xe none 120 63 [(0, .ref 0), (1, vi x1), (2, vi x2), (3, vi x3), (4, vj x4), (6, vi x6), (7, vi x7), (8, vi x8)] [] s 0 0 (fun s' v => GI s' ∧ FL [3329, 3334, 3335, 3336, 3392, 3456, 3520, 3584, 3276, 3648, 3712, 3776, 3840, 3904, 3968, 3277, 4032] s0 s' ∧ ∃ z, v = some (vi z) ∧ ((-1004) ≤ z ∧ z ≤ 127) ∧ VCj s' ∧ VCl s') := by
  intro n
  induction n with
  | zero => intro s x1 x2 x3 x4 x6 x7 x8 hG f b_x1 b_x2 b_x3 b_x4 b_x6 b_x7 b_x8 r_6_8 i_VCj i_VCl  hm; exfalso; omega
  | succ n ih =>
    intro s x1 x2 x3 x4 x6 x7 x8 hG f b_x1 b_x2 b_x3 b_x4 b_x6 b_x7 b_x8 r_6_8 i_VCj i_VCl  hm
    refine x_A k120_63 (fun _ => rfl) ?_
    refine x_A k120_65 (fun _ => rfl) ?_
    refine x_getR k120_66 (f := 0) rfl (q := 0) (n := 12) (kd := 3) ⟨by decide, rfl⟩ (q2 := 1) (by decide) rfl ?_
    refine x_getI k120_69 (f := 4) rfl (q := 1) (n := 5) (kd := 4) ⟨by decide, rfl⟩ (by decide) rfl ?_
    refine x_top (fun z537 e_z537 => ?_)
    have g_z537 : (1 : Int) ≤ s 1 4 ∧ s 1 4 ≤ 40 := hG 1 4
    refine x_ic_ge k120_72 (t := 148) rfl (by first | exact x_rb b_x8 rfl rfl | exact ⟨by omega, by omega⟩) (by first | exact x_rbe e_z537 g_z537 rfl rfl | exact x_rb g_z537 rfl rfl | exact ⟨by omega, by omega⟩) (fun c538 => ?_) (fun c538 => ?_)
    · skip
      refine x_A k120_148 (fun _ => rfl) ?_
      refine x_if_ne k120_149 (t := 157) rfl (by first | exact x_rb b_x3 rfl rfl | exact ⟨by omega, by omega⟩) (fun c539 => ?_) (fun c539 => ?_)
      · skip
        refine x_A k120_157 (fun _ => rfl) ?_
        exact x_iret k120_159 rfl ⟨hG, f, x7, rfl, (by first | exact x_rb b_x7 rfl rfl | exact ⟨by omega, by omega⟩), i_VCj, i_VCl⟩
      · skip
        refine x_A k120_152 (fun _ => rfl) ?_
        refine x_goto k120_154 (t := 159) rfl ?_
        exact x_iret k120_159 rfl ⟨hG, f, x6, rfl, (by first | exact x_rb b_x6 rfl rfl | exact ⟨by omega, by omega⟩), i_VCj, i_VCl⟩
    · skip
      refine x_A k120_75 (fun _ => rfl) ?_
      refine x_A k120_76 (fun _ => rfl) ?_
      refine x_A k120_78 (fun _ => rfl) ?_
      refine x_A k120_79 (fun _ => rfl) ?_
      refine x_callV k120_80 (y := 131) (n := 3) (w0 := 0) (w1 := 3) (as := [vi x8, vi x1, vi x2]) (rest := []) (by decide +kernel) (q := 0) (nq := 12) (kq := 3) ⟨by decide, rfl⟩ rfl rfl rfl rfl (xe_mono (C_X10_isApart_0 s hG x8 (by first | exact x_rb b_x8 rfl rfl | exact ⟨by omega, by omega⟩) x1 (by first | exact x_rb b_x1 rfl rfl | exact ⟨by omega, by omega⟩) x2 (by first | exact x_rb b_x2 rfl rfl | exact ⟨by omega, by omega⟩)) ?_)
      rintro s541 v ⟨-, t_s541, z540, rfl, g_z540⟩
      rw [t_s541.nil]
      show xe none 120 83 [(0, .ref 0), (1, vi x1), (2, vi x2), (3, vi x3), (4, vj x4), (6, vi x6), (7, vi x7), (8, vi x8)] [vi z540] s 0 0 _
      refine x_if_ne k120_83 (t := 89) rfl (by first | exact x_rbe e_z540 g_z540 rfl rfl | exact x_rb g_z540 rfl rfl | exact ⟨by omega, by omega⟩) (fun c542 => ?_) (fun c542 => ?_)
      · skip
        refine x_A k120_89 (fun _ => rfl) ?_
        refine x_A k120_91 (fun _ => rfl) ?_
        refine x_getR k120_92 (f := 9) rfl (q := 0) (n := 12) (kd := 3) ⟨by decide, rfl⟩ (q2 := 243) (by decide) rfl ?_
        refine x_A k120_95 (fun _ => rfl) ?_
        refine x_callV k120_97 (y := 79) (n := 1) (w0 := 2) (w1 := 1) (as := [vi x8]) (rest := [vj x4]) (by decide +kernel) (q := 243) (nq := 13) (kq := 13) ⟨by decide, rfl⟩ rfl rfl rfl rfl (xe_mono (C_X8_showing_243 s hG x8 (by first | exact x_rb b_x8 rfl rfl | exact ⟨by omega, by omega⟩)) ?_)
        rintro s544 v ⟨-, t_s544, z543, rfl, b_z543⟩
        rw [t_s544.nil]
        show xe none 120 100 [(0, .ref 0), (1, vi x1), (2, vi x2), (3, vi x3), (4, vj x4), (6, vi x6), (7, vi x7), (8, vi x8)] [vj z543, vj x4] s 0 0 _
        refine x_land_any k120_100 (fun z545 b_z545 => ?_)
        refine x_callS k120_101 (y := 219) (n := 1) (w0 := 0) (w1 := 2) (as := [vj z545]) (rest := []) (by decide +kernel) rfl rfl rfl rfl (xe_mono (E_J13_bitCount_95d88 s hG z545 b_z545) ?_)
        rintro s547 v ⟨-, t_s547, z546, rfl, g_z546, xp_z546⟩
        rw [t_s547.nil]
        try rw [t_s547.nil] at xp_z546
        show xe none 120 104 [(0, .ref 0), (1, vi x1), (2, vi x2), (3, vi x3), (4, vj x4), (6, vi x6), (7, vi x7), (8, vi x8)] [vi z546] s 0 0 _
        refine x_istore k120_104 (ls' := [(9, vi z546), (0, .ref 0), (1, vi x1), (2, vi x2), (3, vi x3), (4, vj x4), (6, vi x6), (7, vi x7), (8, vi x8)]) (by decide) rfl ?_
        refine x_A k120_106 (fun _ => rfl) ?_
        refine x_A k120_108 (fun _ => rfl) ?_
        refine x_callS k120_110 (y := 219) (n := 1) (w0 := 1) (w1 := 2) (as := [vj x4]) (rest := [vi z546]) (by decide +kernel) rfl rfl rfl rfl (xe_mono (E_J13_bitCount_95d88 s hG x4 b_x4) ?_)
        rintro s549 v ⟨-, t_s549, z548, rfl, g_z548, xp_z548⟩
        rw [t_s549.nil]
        try rw [t_s549.nil] at xp_z548
        show xe none 120 113 [(9, vi z546), (0, .ref 0), (1, vi x1), (2, vi x2), (3, vi x3), (4, vj x4), (6, vi x6), (7, vi x7), (8, vi x8)] [vi z548, vi z546] s 0 0 _
        refine x_A k120_113 (fun _ => rfl) ?_
        refine x_isub k120_115 ?_
        refine x_top (fun z550 e_z550 => ?_)
        refine x_callS k120_116 (y := 220) (n := 2) (w0 := 0) (w1 := 2) (as := [vi z546, vi z550]) (rest := []) (by decide +kernel) rfl rfl rfl rfl (xe_mono (C_J9_max_7cf53 s hG z546 (by first | exact x_rbe e_z546 g_z546 rfl rfl | exact x_rb g_z546 rfl rfl | exact ⟨by omega, by omega⟩) z550 (by first | exact x_rbe e_z550 g_z550 rfl rfl | exact x_rb g_z550 rfl rfl | exact ⟨by omega, by omega⟩)) ?_)
        rintro s552 v ⟨h_s552, z551, rfl, g_z551⟩
        rw [h_s552]
        show xe none 120 119 [(9, vi z546), (0, .ref 0), (1, vi x1), (2, vi x2), (3, vi x3), (4, vj x4), (6, vi x6), (7, vi x7), (8, vi x8)] [vi z551] s 0 0 _
        refine x_istore k120_119 (ls' := [(10, vi z551), (9, vi z546), (0, .ref 0), (1, vi x1), (2, vi x2), (3, vi x3), (4, vj x4), (6, vi x6), (7, vi x7), (8, vi x8)]) (by decide) rfl ?_
        refine x_A k120_121 (fun _ => rfl) ?_
        refine x_A k120_123 (fun _ => rfl) ?_
        refine x_ic_eq k120_124 (t := 134) rfl (by first | exact x_rb b_x6 rfl rfl | exact ⟨by omega, by omega⟩) ⟨by decide, by decide⟩ (fun c553 => ?_) (fun c553 => ?_)
        · skip
          refine x_A k120_134 (fun _ => rfl) ?_
          refine x_istore k120_136 (ls' := [(6, vi x8), (10, vi z551), (9, vi z546), (0, .ref 0), (1, vi x1), (2, vi x2), (3, vi x3), (4, vj x4), (7, vi x7), (8, vi x8)]) (by decide) rfl ?_
          refine x_A k120_138 (fun _ => rfl) ?_
          refine x_istore k120_140 (ls' := [(7, vi z551), (6, vi x8), (10, vi z551), (9, vi z546), (0, .ref 0), (1, vi x1), (2, vi x2), (3, vi x3), (4, vj x4), (8, vi x8)]) (by decide) rfl ?_
          refine x_iinc k120_142 (ls' := [(8, vi (x8 + 1)), (7, vi z551), (6, vi x8), (10, vi z551), (9, vi z546), (0, .ref 0), (1, vi x1), (2, vi x2), (3, vi x3), (4, vj x4)]) rfl (by decide) rfl ?_
          refine x_goto k120_145 (t := 63) rfl ?_
          refine x_ls (l := [(0, .ref 0), (1, vi x1), (2, vi x2), (3, vi x3), (4, vj x4), (6, vi x8), (7, vi z551), (8, vi (x8 + 1))]) (show ([0, 1, 2, 3, 4, 6, 7, 8] : List Nat).Nodup from by decide) ⟨rfl, rfl, rfl, rfl, rfl, rfl, rfl, rfl, trivial⟩ ?_
          exact ih s x1 x2 x3 x4 x8 z551 (x8 + 1) hG f (by first | exact x_rb b_x1 rfl rfl | exact ⟨by omega, by omega⟩) (by first | exact x_rb b_x2 rfl rfl | exact ⟨by omega, by omega⟩) (by first | exact x_rb b_x3 rfl rfl | exact ⟨by omega, by omega⟩) b_x4 (by first | exact x_rb b_x8 rfl rfl | exact ⟨by omega, by omega⟩) (by first | exact x_rbe e_z551 g_z551 rfl rfl | exact x_rb g_z551 rfl rfl | exact ⟨by omega, by omega⟩) ⟨by omega, by omega⟩ (by omega) i_VCj i_VCl  (by omega)
        · skip
          refine x_A k120_127 (fun _ => rfl) ?_
          refine x_A k120_129 (fun _ => rfl) ?_
          refine x_ic_ge k120_131 (t := 142) rfl (by first | exact x_rbe e_z551 g_z551 rfl rfl | exact x_rb g_z551 rfl rfl | exact ⟨by omega, by omega⟩) (by first | exact x_rb b_x7 rfl rfl | exact ⟨by omega, by omega⟩) (fun c554 => ?_) (fun c554 => ?_)
          · skip
            refine x_iinc k120_142 (ls' := [(8, vi (x8 + 1)), (10, vi z551), (9, vi z546), (0, .ref 0), (1, vi x1), (2, vi x2), (3, vi x3), (4, vj x4), (6, vi x6), (7, vi x7)]) rfl (by decide) rfl ?_
            refine x_goto k120_145 (t := 63) rfl ?_
            refine x_ls (l := [(0, .ref 0), (1, vi x1), (2, vi x2), (3, vi x3), (4, vj x4), (6, vi x6), (7, vi x7), (8, vi (x8 + 1))]) (show ([0, 1, 2, 3, 4, 6, 7, 8] : List Nat).Nodup from by decide) ⟨rfl, rfl, rfl, rfl, rfl, rfl, rfl, rfl, trivial⟩ ?_
            exact ih s x1 x2 x3 x4 x6 x7 (x8 + 1) hG f (by first | exact x_rb b_x1 rfl rfl | exact ⟨by omega, by omega⟩) (by first | exact x_rb b_x2 rfl rfl | exact ⟨by omega, by omega⟩) (by first | exact x_rb b_x3 rfl rfl | exact ⟨by omega, by omega⟩) b_x4 (by first | exact x_rb b_x6 rfl rfl | exact ⟨by omega, by omega⟩) (by first | exact x_rb b_x7 rfl rfl | exact ⟨by omega, by omega⟩) ⟨by omega, by omega⟩ (by omega) i_VCj i_VCl  (by omega)
          · skip
            refine x_A k120_134 (fun _ => rfl) ?_
            refine x_istore k120_136 (ls' := [(6, vi x8), (10, vi z551), (9, vi z546), (0, .ref 0), (1, vi x1), (2, vi x2), (3, vi x3), (4, vj x4), (7, vi x7), (8, vi x8)]) (by decide) rfl ?_
            refine x_A k120_138 (fun _ => rfl) ?_
            refine x_istore k120_140 (ls' := [(7, vi z551), (6, vi x8), (10, vi z551), (9, vi z546), (0, .ref 0), (1, vi x1), (2, vi x2), (3, vi x3), (4, vj x4), (8, vi x8)]) (by decide) rfl ?_
            refine x_iinc k120_142 (ls' := [(8, vi (x8 + 1)), (7, vi z551), (6, vi x8), (10, vi z551), (9, vi z546), (0, .ref 0), (1, vi x1), (2, vi x2), (3, vi x3), (4, vj x4)]) rfl (by decide) rfl ?_
            refine x_goto k120_145 (t := 63) rfl ?_
            refine x_ls (l := [(0, .ref 0), (1, vi x1), (2, vi x2), (3, vi x3), (4, vj x4), (6, vi x8), (7, vi z551), (8, vi (x8 + 1))]) (show ([0, 1, 2, 3, 4, 6, 7, 8] : List Nat).Nodup from by decide) ⟨rfl, rfl, rfl, rfl, rfl, rfl, rfl, rfl, trivial⟩ ?_
            exact ih s x1 x2 x3 x4 x8 z551 (x8 + 1) hG f (by first | exact x_rb b_x1 rfl rfl | exact ⟨by omega, by omega⟩) (by first | exact x_rb b_x2 rfl rfl | exact ⟨by omega, by omega⟩) (by first | exact x_rb b_x3 rfl rfl | exact ⟨by omega, by omega⟩) b_x4 (by first | exact x_rb b_x8 rfl rfl | exact ⟨by omega, by omega⟩) (by first | exact x_rbe e_z551 g_z551 rfl rfl | exact x_rb g_z551 rfl rfl | exact ⟨by omega, by omega⟩) ⟨by omega, by omega⟩ (by omega) i_VCj i_VCl  (by omega)
      · skip
        refine x_goto k120_86 (t := 142) rfl ?_
        refine x_iinc k120_142 (ls' := [(8, vi (x8 + 1)), (0, .ref 0), (1, vi x1), (2, vi x2), (3, vi x3), (4, vj x4), (6, vi x6), (7, vi x7)]) rfl (by decide) rfl ?_
        refine x_goto k120_145 (t := 63) rfl ?_
        refine x_ls (l := [(0, .ref 0), (1, vi x1), (2, vi x2), (3, vi x3), (4, vj x4), (6, vi x6), (7, vi x7), (8, vi (x8 + 1))]) (show ([0, 1, 2, 3, 4, 6, 7, 8] : List Nat).Nodup from by decide) ⟨rfl, rfl, rfl, rfl, rfl, rfl, rfl, rfl, trivial⟩ ?_
        exact ih s x1 x2 x3 x4 x6 x7 (x8 + 1) hG f (by first | exact x_rb b_x1 rfl rfl | exact ⟨by omega, by omega⟩) (by first | exact x_rb b_x2 rfl rfl | exact ⟨by omega, by omega⟩) (by first | exact x_rb b_x3 rfl rfl | exact ⟨by omega, by omega⟩) b_x4 (by first | exact x_rb b_x6 rfl rfl | exact ⟨by omega, by omega⟩) (by first | exact x_rb b_x7 rfl rfl | exact ⟨by omega, by omega⟩) ⟨by omega, by omega⟩ (by omega) i_VCj i_VCl  (by omega)
set_option maxHeartbeats 8000000 in
theorem V_X10_split_0 (s0 : xS) (hG0 : GI s0) (hJ0 : J s0) (a : Int) (b_a : (-2147483648) ≤ a ∧ a ≤ 2147483647) (b : Int) (b_b : (-2147483648) ≤ b ∧ b ≤ 2147483647) (d : Int) (b_d : (-2147483648) ≤ d ∧ d ≤ 2147483647) (pR : R1 s0) (i0_VCj : VCj s0) (i0_VCl : VCl s0) : xe none 120 0 (lv_args 0 [.ref 0, vi a, vi b, vi d]) [] s0 0 0 (fun s' v => GI s' ∧ FL [3329, 3334, 3335, 3336, 3392, 3456, 3520, 3584, 3276, 3648, 3712, 3776, 3840, 3904, 3968, 3277, 4032] s0 s' ∧ ∃ z, v = some (vi z) ∧ ((-1004) ≤ z ∧ z ≤ 127) ∧ VCj s' ∧ VCl s') := by
  have f0 : FL [3329, 3334, 3335, 3336, 3392, 3456, 3520, 3584, 3276, 3648, 3712, 3776, 3840, 3904, 3968, 3277, 4032] s0 s0 := FL.rf
  show xe none 120 0 [(0, .ref 0), (1, vi a), (2, vi b), (3, vi d)] [] s0 0 0 _
  refine x_A k120_0 (fun _ => rfl) ?_
  refine x_getR k120_1 (f := 0) rfl (q := 0) (n := 12) (kd := 3) ⟨by decide, rfl⟩ (q2 := 1) (by decide) rfl ?_
  refine x_A k120_4 (fun _ => rfl) ?_
  obtain ⟨z555, e_z555⟩ : ∃ z, z = s0 1 4 := ⟨_, rfl⟩
  have g_z555 : (1 : Int) ≤ s0 1 4 ∧ s0 1 4 ≤ 40 := hG0 1 4
  refine x_callV k120_5 (y := 59) (n := 1) (w0 := 0) (w1 := 1) (as := [vi a]) (rest := []) (by decide +kernel) (q := 1) (nq := 5) (kq := 4) ⟨by decide, rfl⟩ rfl rfl rfl rfl (xe_mono (C_X7_has_1 s0 hG0 a (by first | exact x_rb b_a rfl rfl | exact ⟨by omega, by omega⟩)) ?_)
  rintro s557 v ⟨h_s557, z556, rfl, hz_z556⟩
  rw [h_s557]
  rcases hz_z556 with ⟨c_z556, e_z556⟩ | ⟨c_z556, e_z556⟩
  · rw [e_z556]
    show xe none 120 8 [(0, .ref 0), (1, vi a), (2, vi b), (3, vi d)] [vi 1] s0 0 0 _
    refine x_if_ne k120_8 (t := 15) rfl ⟨by decide, by decide⟩ (fun c558 => ?_) (fun c558 => by exfalso; omega)
    refine x_A k120_15 (fun _ => rfl) ?_
    refine x_A k120_16 (fun _ => rfl) ?_
    obtain ⟨z559, e_z559⟩ : ∃ z, z = s0 0 10 := ⟨_, rfl⟩
    have g_z559 : (0 : Int) ≤ s0 0 10 ∧ s0 0 10 ≤ 9 := hG0 0 10
    refine x_callV k120_17 (y := 125) (n := 1) (w0 := 0) (w1 := 1) (as := [vi b]) (rest := []) (by decide +kernel) (q := 0) (nq := 12) (kq := 3) ⟨by decide, rfl⟩ rfl rfl rfl rfl (xe_mono (C_X10_isKnownEdition_0 s0 hG0 b (by first | exact x_rb b_b rfl rfl | exact ⟨by omega, by omega⟩)) ?_)
    rintro s561 v ⟨h_s561, z560, rfl, hz_z560⟩
    rw [h_s561]
    rcases hz_z560 with ⟨c_z560, e_z560⟩ | ⟨c_z560, e_z560⟩
    · rw [e_z560]
      show xe none 120 20 [(0, .ref 0), (1, vi a), (2, vi b), (3, vi d)] [vi 1] s0 0 0 _
      refine x_if_eq k120_20 (t := 32) rfl ⟨by decide, by decide⟩ (fun c562 => by exfalso; omega) (fun c562 => ?_)
      refine x_A k120_23 (fun _ => rfl) ?_
      refine x_A k120_24 (fun _ => rfl) ?_
      refine x_A k120_25 (fun _ => rfl) ?_
      refine x_callS k120_26 (y := 121) (n := 3) (w0 := 0) (w1 := 3) (as := [vi d, vi 0, vi 1]) (rest := []) (by decide +kernel) rfl rfl rfl rfl (xe_mono (C_X10_isWithin s0 hG0 d (by first | exact x_rb b_d rfl rfl | exact ⟨by omega, by omega⟩) 0 ⟨by decide, by decide⟩ 1 ⟨by decide, by decide⟩) ?_)
      rintro s564 v ⟨h_s564, z563, rfl, hz_z563⟩
      rw [h_s564]
      rcases hz_z563 with ⟨c_z563, e_z563⟩ | ⟨c_z563, e_z563⟩
      · rw [e_z563]
        show xe none 120 29 [(0, .ref 0), (1, vi a), (2, vi b), (3, vi d)] [vi 1] s0 0 0 _
        refine x_if_ne k120_29 (t := 36) rfl ⟨by decide, by decide⟩ (fun c565 => ?_) (fun c565 => by exfalso; omega)
        refine x_A k120_36 (fun _ => rfl) ?_
        refine x_getR k120_37 (f := 9) rfl (q := 0) (n := 12) (kd := 3) ⟨by decide, rfl⟩ (q2 := 243) (by decide) rfl ?_
        refine x_A k120_40 (fun _ => rfl) ?_
        refine x_callV k120_41 (y := 76) (n := 1) (w0 := 0) (w1 := 1) (as := [vi b]) (rest := []) (by decide +kernel) (q := 243) (nq := 13) (kq := 13) ⟨by decide, rfl⟩ rfl rfl rfl rfl (xe_mono (E_X8_lookIn_243 s0 hG0 (hJ0.fl f0 (by decide)) b (by first | exact x_rb b_b rfl rfl | exact ⟨by omega, by omega⟩) (pR.fl f0 (by decide)) i0_VCj i0_VCl) ?_)
        rintro s567 v ⟨hG_s567, t_s567, rfl, xp_z566⟩
        have f_s567 : FL [3329, 3334, 3335, 3336, 3392, 3456, 3520, 3584, 3276, 3648, 3712, 3776, 3840, 3904, 3968, 3277, 4032] s0 s567 := f0.tr t_s567 (by decide)
        have q568 : s567 1 4 = z555 := (t_s567 1 4 (show 69 ∉ [3329, 3334, 3335, 3336, 3392, 3456, 3520, 3584, 3276, 3648, 3712, 3776, 3840, 3904, 3968, 3277, 4032] from by decide)).trans e_z555.symm
        have q569 : s567 0 10 = z559 := (t_s567 0 10 (show 11 ∉ [3329, 3334, 3335, 3336, 3392, 3456, 3520, 3584, 3276, 3648, 3712, 3776, 3840, 3904, 3968, 3277, 4032] from by decide)).trans e_z559.symm
        obtain ⟨z570, e_z570⟩ : ∃ z, z = s567 243 11 := ⟨_, rfl⟩
        have g_z570 : (0 : Int) ≤ s567 243 11 ∧ s567 243 11 ≤ 1 := hG_s567 243 11
        obtain ⟨z571, e_z571⟩ : ∃ z, z = s567 243 12 := ⟨_, rfl⟩
        have g_z571 : (-1) ≤ s567 243 12 ∧ s567 243 12 ≤ 9 := hG_s567 243 12
        show xe none 120 44 [(0, .ref 0), (1, vi a), (2, vi b), (3, vi d)] [] s567 0 0 _
        have VCj_k : VCj s567 := VCj.judge hG0 t_s567 (by decide) xp_z566.1
        have VCl_k : VCl s567 := VCl.look hG0 t_s567 (by decide) xp_z566.2.1 xp_z566.2.2.1 xp_z566.2.2.2
        refine x_A k120_44 (fun _ => rfl) ?_
        refine x_getR k120_45 (f := 9) rfl (q := 0) (n := 12) (kd := 3) ⟨by decide, rfl⟩ (q2 := 243) (by decide) rfl ?_
        refine x_A k120_48 (fun _ => rfl) ?_
        refine x_callV k120_49 (y := 79) (n := 1) (w0 := 0) (w1 := 1) (as := [vi a]) (rest := []) (by decide +kernel) (q := 243) (nq := 13) (kq := 13) ⟨by decide, rfl⟩ rfl rfl rfl rfl (xe_mono (C_X8_showing_243 s567 hG_s567 a (by first | exact x_rb b_a rfl rfl | exact ⟨by omega, by omega⟩)) ?_)
        rintro s573 v ⟨-, t_s573, z572, rfl, b_z572⟩
        rw [t_s573.nil]
        show xe none 120 52 [(0, .ref 0), (1, vi a), (2, vi b), (3, vi d)] [vj z572] s567 0 0 _
        refine x_lstore k120_52 (ls' := [(4, vj z572), (0, .ref 0), (1, vi a), (2, vi b), (3, vi d)]) (by decide) rfl ?_
        refine x_A k120_54 (fun _ => rfl) ?_
        refine x_istore k120_55 (ls' := [(6, vi (-1)), (4, vj z572), (0, .ref 0), (1, vi a), (2, vi b), (3, vi d)]) (by decide) rfl ?_
        refine x_A k120_57 (fun _ => rfl) ?_
        refine x_istore k120_58 (ls' := [(7, vi (-1)), (6, vi (-1)), (4, vj z572), (0, .ref 0), (1, vi a), (2, vi b), (3, vi d)]) (by decide) rfl ?_
        refine x_A k120_60 (fun _ => rfl) ?_
        refine x_istore k120_61 (ls' := [(8, vi 0), (7, vi (-1)), (6, vi (-1)), (4, vj z572), (0, .ref 0), (1, vi a), (2, vi b), (3, vi d)]) (by decide) rfl ?_
        refine x_ls (l := [(0, .ref 0), (1, vi a), (2, vi b), (3, vi d), (4, vj z572), (6, vi (-1)), (7, vi (-1)), (8, vi 0)]) (show ([0, 1, 2, 3, 4, 6, 7, 8] : List Nat).Nodup from by decide) ⟨rfl, rfl, rfl, rfl, rfl, rfl, rfl, rfl, trivial⟩ ?_
        exact L_V_X10_split_0_63 s0 hJ0 a b_a b b_b d b_d pR  (((40 - 0) + 1 : Int)).toNat s567 a b d z572 (-1) (-1) 0 hG_s567 f_s567 (by first | exact x_rb b_a rfl rfl | exact ⟨by omega, by omega⟩) (by first | exact x_rb b_b rfl rfl | exact ⟨by omega, by omega⟩) (by first | exact x_rb b_d rfl rfl | exact ⟨by omega, by omega⟩) b_z572 ⟨by decide, by decide⟩ ⟨by decide, by decide⟩ ⟨by decide, by decide⟩ (by omega) VCj_k VCl_k  (by omega)
      · rw [e_z563]
        show xe none 120 29 [(0, .ref 0), (1, vi a), (2, vi b), (3, vi d)] [vi 0] s0 0 0 _
        refine x_if_ne k120_29 (t := 36) rfl ⟨by decide, by decide⟩ (fun c574 => by exfalso; omega) (fun c574 => ?_)
        refine x_sipush k120_32 (by decide +kernel) ?_
        exact x_iret k120_35 rfl ⟨hG0, f0, (-1002), rfl, ⟨by decide, by decide⟩, i0_VCj, i0_VCl⟩
    · rw [e_z560]
      show xe none 120 20 [(0, .ref 0), (1, vi a), (2, vi b), (3, vi d)] [vi 0] s0 0 0 _
      refine x_if_eq k120_20 (t := 32) rfl ⟨by decide, by decide⟩ (fun c575 => ?_) (fun c575 => by exfalso; omega)
      refine x_sipush k120_32 (by decide +kernel) ?_
      exact x_iret k120_35 rfl ⟨hG0, f0, (-1002), rfl, ⟨by decide, by decide⟩, i0_VCj, i0_VCl⟩
  · rw [e_z556]
    show xe none 120 8 [(0, .ref 0), (1, vi a), (2, vi b), (3, vi d)] [vi 0] s0 0 0 _
    refine x_if_ne k120_8 (t := 15) rfl ⟨by decide, by decide⟩ (fun c576 => by exfalso; omega) (fun c576 => ?_)
    refine x_sipush k120_11 (by decide +kernel) ?_
    exact x_iret k120_14 rfl ⟨hG0, f0, (-1001), rfl, ⟨by decide, by decide⟩, i0_VCj, i0_VCl⟩
