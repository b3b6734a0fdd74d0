set_option maxHeartbeats 8000000 in
theorem L_V_X10_likely_0_61 (s0 : xS) (hJ0 : J s0) (a : Int) (b_a : (-2147483648) ≤ a ∧ a ≤ 2147483647) (b : Int) (b_b : (-2147483648) ≤ b ∧ b ≤ 2147483647) (d : Int) (b_d : (-2147483648) ≤ d ∧ d ≤ 2147483647) (pR : R1 s0) (n_53 : Nat) (ih_53 : ∀ (s : xS) (x1 : Int) (x2 : Int) (x3 : Int) (x4 : Int) (x6 : Int) (x7 : Int) (hG : GI s) (f : FL [3329, 3334, 3335, 3336, 3392, 3456, 3520, 3584, 3276, 3648, 3712, 3776, 3840, 3904, 3968, 3277, 4032] s0 s) (b_x1 : 0 ≤ x1 ∧ x1 ≤ 39) (b_x2 : 0 ≤ x2 ∧ x2 ≤ 9) (b_x3 : (-2147483648) ≤ x3 ∧ x3 ≤ 2147483647) (b_x4 : in64 x4) (b_x6 : (-2147483648) ≤ x6 ∧ x6 ≤ 2147483647) (b_x7 : 0 ≤ x7 ∧ x7 ≤ 127) (i_VCj : VCj s) (i_VCl : VCl s) (hm : (x7 - 0) < (n_53 : Int)), xe none 115 53 [(0, .ref 0), (1, vi x1), (2, vi x2), (3, vi x3), (4, vj x4), (6, vi x6), (7, vi x7)] [] s 0 0 (fun s' v => GI s' ∧ FL [3329, 3334, 3335, 3336, 3392, 3456, 3520, 3584, 3276, 3648, 3712, 3776, 3840, 3904, 3968, 3277, 4032] s0 s' ∧ ∃ z, v = some (vi z) ∧ ((-2147483648) ≤ z ∧ z ≤ 2147483647) ∧ VCj s' ∧ VCl s')) : ∀ (n : Nat) (s : xS) (x1 : Int) (x2 : Int) (x3 : Int) (x4 : Int) (x6 : Int) (x7 : Int) (x8 : Int) (hG : GI s) (f : FL [3329, 3334, 3335, 3336, 3392, 3456, 3520, 3584, 3276, 3648, 3712, 3776, 3840, 3904, 3968, 3277, 4032] s0 s) (b_x1 : 0 ≤ x1 ∧ x1 ≤ 39) (b_x2 : 0 ≤ x2 ∧ x2 ≤ 9) (b_x3 : (-2147483648) ≤ x3 ∧ x3 ≤ 2147483647) (b_x4 : in64 x4) (b_x6 : (-2147483648) ≤ x6 ∧ x6 ≤ 2147483647) (b_x7 : 1 ≤ x7 ∧ x7 ≤ 127) (b_x8 : 0 ≤ x8 ∧ x8 ≤ 40) (i_VCj : VCj s) (i_VCl : VCl s) (k_53 : (x7 - 0) < (n_53 : Int) + 1) (hm : (40 - x8) < (n : Int)), xe none 115 61 [(0, .ref 0), (1, vi x1), (2, vi x2), (3, vi x3), (4, vj x4), (6, vi x6), (7, vi x7), (8, vi x8)] [] s 0 0 (fun s' v => GI s' ∧ FL [3329, 3334, 3335, 3336, 3392, 3456, 3520, 3584, 3276, 3648, 3712, 3776, 3840, 3904, 3968, 3277, 4032] s0 s' ∧ ∃ z, v = some (vi z) ∧ ((-2147483648) ≤ z ∧ z ≤ 2147483647) ∧ VCj s' ∧ VCl s') := by
  intro n
  induction n with
  | zero => intro s x1 x2 x3 x4 x6 x7 x8 hG f b_x1 b_x2 b_x3 b_x4 b_x6 b_x7 b_x8 i_VCj i_VCl k_53 hm; exfalso; omega
  | succ n ih =>
    intro s x1 x2 x3 x4 x6 x7 x8 hG f b_x1 b_x2 b_x3 b_x4 b_x6 b_x7 b_x8 i_VCj i_VCl k_53 hm
    refine x_A k115_61 (fun _ => rfl) ?_
    refine x_A k115_63 (fun _ => rfl) ?_
    refine x_getR k115_64 (f := 1) rfl (q := 0) (n := 12) (kd := 3) ⟨by decide, rfl⟩ (q2 := 46) (by decide) rfl ?_
    refine x_getI k115_67 (f := 3) rfl (q := 46) (n := 4) (kd := 5) ⟨by decide, rfl⟩ (by decide) rfl ?_
    refine x_top (fun z898 e_z898 => ?_)
    have g_z898 : (0 : Int) ≤ s 46 3 ∧ s 46 3 ≤ 40 := hG 46 3
    refine x_ic_ge k115_70 (t := 128) rfl (by first | exact x_rb b_x8 rfl rfl | exact ⟨by omega, by omega⟩) (by first | exact x_rbe e_z898 g_z898 rfl rfl | exact x_rb g_z898 rfl rfl | exact ⟨by omega, by omega⟩) (fun c899 => ?_) (fun c899 => ?_)
    · skip
      refine x_iinc k115_128 (ls' := [(7, vi (x7 + (-1))), (0, .ref 0), (1, vi x1), (2, vi x2), (3, vi x3), (4, vj x4), (6, vi x6), (8, vi x8)]) rfl (by decide) rfl ?_
      refine x_goto k115_131 (t := 53) rfl ?_
      refine x_ls (l := [(0, .ref 0), (1, vi x1), (2, vi x2), (3, vi x3), (4, vj x4), (6, vi x6), (7, vi (x7 + (-1)))]) (show ([0, 1, 2, 3, 4, 6, 7] : List Nat).Nodup from by decide) ⟨rfl, rfl, rfl, rfl, rfl, rfl, rfl, trivial⟩ ?_
      exact ih_53 s x1 x2 x3 x4 x6 (x7 + (-1)) hG f (by first | exact x_rb b_x1 rfl rfl | exact ⟨by omega, by omega⟩) (by first | exact x_rb b_x2 rfl rfl | exact ⟨by omega, by omega⟩) (by first | exact x_rb b_x3 rfl rfl | exact ⟨by omega, by omega⟩) b_x4 (by first | exact x_rb b_x6 rfl rfl | exact ⟨by omega, by omega⟩) ⟨by omega, by omega⟩ i_VCj i_VCl (by omega)
    · skip
      refine x_A k115_73 (fun _ => rfl) ?_
      refine x_getR k115_74 (f := 9) rfl (q := 0) (n := 12) (kd := 3) ⟨by decide, rfl⟩ (q2 := 243) (by decide) rfl ?_
      refine x_A k115_77 (fun _ => rfl) ?_
      refine x_A k115_79 (fun _ => rfl) ?_
      refine x_callV k115_80 (y := 78) (n := 2) (w0 := 0) (w1 := 2) (as := [vi x8, vi x1]) (rest := []) (by decide +kernel) (q := 243) (nq := 13) (kq := 13) ⟨by decide, rfl⟩ rfl rfl rfl rfl (xe_mono (C_X8_shows_243 s hG x8 (by first | exact x_rb b_x8 rfl rfl | exact ⟨by omega, by omega⟩) x1 (by first | exact x_rb b_x1 rfl rfl | exact ⟨by omega, by omega⟩)) ?_)
      rintro s901 v ⟨-, t_s901, z900, rfl, g_z900⟩
      rw [t_s901.nil]
      show xe none 115 83 [(0, .ref 0), (1, vi x1), (2, vi x2), (3, vi x3), (4, vj x4), (6, vi x6), (7, vi x7), (8, vi x8)] [vi z900] s 0 0 _
      refine x_if_ne k115_83 (t := 122) rfl (by first | exact x_rbe e_z900 g_z900 rfl rfl | exact x_rb g_z900 rfl rfl | exact ⟨by omega, by omega⟩) (fun c902 => ?_) (fun c902 => ?_)
      · skip
        refine x_iinc k115_122 (ls' := [(8, vi (x8 + 1)), (0, .ref 0), (1, vi x1), (2, vi x2), (3, vi x3), (4, vj x4), (6, vi x6), (7, vi x7)]) rfl (by decide) rfl ?_
        refine x_goto k115_125 (t := 61) rfl ?_
        refine x_ls (l := [(0, .ref 0), (1, vi x1), (2, vi x2), (3, vi x3), (4, vj x4), (6, vi x6), (7, vi x7), (8, vi (x8 + 1))]) (show ([0, 1, 2, 3, 4, 6, 7, 8] : List Nat).Nodup from by decide) ⟨rfl, rfl, rfl, rfl, rfl, rfl, rfl, rfl, trivial⟩ ?_
        exact ih s x1 x2 x3 x4 x6 x7 (x8 + 1) hG f (by first | exact x_rb b_x1 rfl rfl | exact ⟨by omega, by omega⟩) (by first | exact x_rb b_x2 rfl rfl | exact ⟨by omega, by omega⟩) (by first | exact x_rb b_x3 rfl rfl | exact ⟨by omega, by omega⟩) b_x4 (by first | exact x_rb b_x6 rfl rfl | exact ⟨by omega, by omega⟩) (by first | exact x_rb b_x7 rfl rfl | exact ⟨by omega, by omega⟩) ⟨by omega, by omega⟩ i_VCj i_VCl (by omega) (by omega)
      · skip
        refine x_A k115_86 (fun _ => rfl) ?_
        refine x_getR k115_87 (f := 9) rfl (q := 0) (n := 12) (kd := 3) ⟨by decide, rfl⟩ (q2 := 243) (by decide) rfl ?_
        refine x_getR k115_90 (f := 10) rfl (q := 243) (n := 13) (kd := 13) ⟨by decide, rfl⟩ (q2 := 255) (by decide) rfl ?_
        refine x_A k115_93 (fun _ => rfl) ?_
        refine x_lald k115_95 (q := 255) (n := 40) ⟨by decide, rfl⟩ (by decide) (by first | exact x_rbl b_x8 rfl rfl | exact ⟨by omega, by omega⟩) ?_
        refine x_topL (fun z903 e_z903 => ?_)
        have b_z903 : in64 z903 := by rw [e_z903]; exact hG 255 x8.toNat
        refine x_A k115_96 (fun _ => rfl) ?_
        refine x_land_any k115_98 (fun z904 b_z904 => ?_)
        refine x_callS k115_99 (y := 219) (n := 1) (w0 := 0) (w1 := 2) (as := [vj z904]) (rest := []) (by decide +kernel) rfl rfl rfl rfl (xe_mono (E_J13_bitCount_95d88 s hG z904 b_z904) ?_)
        rintro s906 v ⟨-, t_s906, z905, rfl, g_z905, xp_z905⟩
        rw [t_s906.nil]
        try rw [t_s906.nil] at xp_z905
        show xe none 115 102 [(0, .ref 0), (1, vi x1), (2, vi x2), (3, vi x3), (4, vj x4), (6, vi x6), (7, vi x7), (8, vi x8)] [vi z905] s 0 0 _
        refine x_A k115_102 (fun _ => rfl) ?_
        refine x_ic_eq k115_104 (t := 110) rfl (by first | exact x_rbe e_z905 g_z905 rfl rfl | exact x_rb g_z905 rfl rfl | exact ⟨by omega, by omega⟩) (by first | exact x_rb b_x7 rfl rfl | exact ⟨by omega, by omega⟩) (fun c907 => ?_) (fun c907 => ?_)
        · skip
          refine x_A k115_110 (fun _ => rfl) ?_
          refine x_A k115_112 (fun _ => rfl) ?_
          refine x_ic_ne k115_113 (t := 119) rfl (by first | exact x_rb b_x6 rfl rfl | exact ⟨by omega, by omega⟩) (by first | exact x_rb b_x3 rfl rfl | exact ⟨by omega, by omega⟩) (fun c908 => ?_) (fun c908 => ?_)
          · skip
            refine x_iinc k115_119 (ls' := [(6, vi (x6 + 1)), (0, .ref 0), (1, vi x1), (2, vi x2), (3, vi x3), (4, vj x4), (7, vi x7), (8, vi x8)]) rfl (by decide) rfl ?_
            obtain ⟨z909, g_z909, e_z909⟩ := x_wrap (x6 + 1)
            unfold in32 at g_z909
            rw [e_z909]
            refine x_iinc k115_122 (ls' := [(8, vi (x8 + 1)), (6, vi z909), (0, .ref 0), (1, vi x1), (2, vi x2), (3, vi x3), (4, vj x4), (7, vi x7)]) rfl (by decide) rfl ?_
            refine x_goto k115_125 (t := 61) rfl ?_
            refine x_ls (l := [(0, .ref 0), (1, vi x1), (2, vi x2), (3, vi x3), (4, vj x4), (6, vi z909), (7, vi x7), (8, vi (x8 + 1))]) (show ([0, 1, 2, 3, 4, 6, 7, 8] : List Nat).Nodup from by decide) ⟨rfl, rfl, rfl, rfl, rfl, rfl, rfl, rfl, trivial⟩ ?_
            exact ih s x1 x2 x3 x4 z909 x7 (x8 + 1) hG f (by first | exact x_rb b_x1 rfl rfl | exact ⟨by omega, by omega⟩) (by first | exact x_rb b_x2 rfl rfl | exact ⟨by omega, by omega⟩) (by first | exact x_rb b_x3 rfl rfl | exact ⟨by omega, by omega⟩) b_x4 (by first | exact x_rbe e_z909 g_z909 rfl rfl | exact x_rb g_z909 rfl rfl | exact ⟨by omega, by omega⟩) (by first | exact x_rb b_x7 rfl rfl | exact ⟨by omega, by omega⟩) ⟨by omega, by omega⟩ i_VCj i_VCl (by omega) (by omega)
          · skip
            refine x_A k115_116 (fun _ => rfl) ?_
            exact x_iret k115_118 rfl ⟨hG, f, x8, rfl, (by first | exact x_rb b_x8 rfl rfl | exact ⟨by omega, by omega⟩), i_VCj, i_VCl⟩
        · skip
          refine x_goto k115_107 (t := 122) rfl ?_
          refine x_iinc k115_122 (ls' := [(8, vi (x8 + 1)), (0, .ref 0), (1, vi x1), (2, vi x2), (3, vi x3), (4, vj x4), (6, vi x6), (7, vi x7)]) rfl (by decide) rfl ?_
          refine x_goto k115_125 (t := 61) rfl ?_
          refine x_ls (l := [(0, .ref 0), (1, vi x1), (2, vi x2), (3, vi x3), (4, vj x4), (6, vi x6), (7, vi x7), (8, vi (x8 + 1))]) (show ([0, 1, 2, 3, 4, 6, 7, 8] : List Nat).Nodup from by decide) ⟨rfl, rfl, rfl, rfl, rfl, rfl, rfl, rfl, trivial⟩ ?_
          exact ih s x1 x2 x3 x4 x6 x7 (x8 + 1) hG f (by first | exact x_rb b_x1 rfl rfl | exact ⟨by omega, by omega⟩) (by first | exact x_rb b_x2 rfl rfl | exact ⟨by omega, by omega⟩) (by first | exact x_rb b_x3 rfl rfl | exact ⟨by omega, by omega⟩) b_x4 (by first | exact x_rb b_x6 rfl rfl | exact ⟨by omega, by omega⟩) (by first | exact x_rb b_x7 rfl rfl | exact ⟨by omega, by omega⟩) ⟨by omega, by omega⟩ i_VCj i_VCl (by omega) (by omega)
set_option maxHeartbeats 8000000 in
theorem L_V_X10_likely_0_53 (s0 : xS) (hJ0 : J s0) (a : Int) (b_a : (-2147483648) ≤ a ∧ a ≤ 2147483647) (b : Int) (b_b : (-2147483648) ≤ b ∧ b ≤ 2147483647) (d : Int) (b_d : (-2147483648) ≤ d ∧ d ≤ 2147483647) (pR : R1 s0)  : ∀ (n : Nat) (s : xS) (x1 : Int) (x2 : Int) (x3 : Int) (x4 : Int) (x6 : Int) (x7 : Int) (hG : GI s) (f : FL [3329, 3334, 3335, 3336, 3392, 3456, 3520, 3584, 3276, 3648, 3712, 3776, 3840, 3904, 3968, 3277, 4032] s0 s) (b_x1 : 0 ≤ x1 ∧ x1 ≤ 39) (b_x2 : 0 ≤ x2 ∧ x2 ≤ 9) (b_x3 : (-2147483648) ≤ x3 ∧ x3 ≤ 2147483647) (b_x4 : in64 x4) (b_x6 : (-2147483648) ≤ x6 ∧ x6 ≤ 2147483647) (b_x7 : 0 ≤ x7 ∧ x7 ≤ 127) (i_VCj : VCj s) (i_VCl : VCl s)  (hm : (x7 - 0) < (n : Int)), xe none 115 53 [(0, .ref 0), (1, vi x1), (2, vi x2), (3, vi x3), (4, vj x4), (6, vi x6), (7, vi x7)] [] s 0 0 (fun s' v => GI s' ∧ FL [3329, 3334, 3335, 3336, 3392, 3456, 3520, 3584, 3276, 3648, 3712, 3776, 3840, 3904, 3968, 3277, 4032] s0 s' ∧ ∃ z, v = some (vi z) ∧ ((-2147483648) ≤ z ∧ z ≤ 2147483647) ∧ VCj s' ∧ VCl s') := by
  intro n
  induction n with
  | zero => intro s x1 x2 x3 x4 x6 x7 hG f b_x1 b_x2 b_x3 b_x4 b_x6 b_x7 i_VCj i_VCl  hm; exfalso; omega
  | succ n ih =>
    intro s x1 x2 x3 x4 x6 x7 hG f b_x1 b_x2 b_x3 b_x4 b_x6 b_x7 i_VCj i_VCl  hm
    refine x_A k115_53 (fun _ => rfl) ?_
    refine x_if_le k115_55 (t := 134) rfl (by first | exact x_rb b_x7 rfl rfl | exact ⟨by omega, by omega⟩) (fun c910 => ?_) (fun c910 => ?_)
    · skip
      refine x_A k115_134 (fun _ => rfl) ?_
      refine x_A k115_135 (fun _ => rfl) ?_
      refine x_ic_ne k115_136 (t := 144) rfl (by first | exact x_rb b_x3 rfl rfl | exact ⟨by omega, by omega⟩) ⟨by decide, by decide⟩ (fun c911 => ?_) (fun c911 => ?_)
      · skip
        refine x_A k115_144 (fun _ => rfl) ?_
        exact x_iret k115_145 rfl ⟨hG, f, (-1), rfl, ⟨by decide, by decide⟩, i_VCj, i_VCl⟩
      · skip
        refine x_A k115_139 (fun _ => rfl) ?_
        refine x_goto k115_141 (t := 145) rfl ?_
        exact x_iret k115_145 rfl ⟨hG, f, x6, rfl, (by first | exact x_rb b_x6 rfl rfl | exact ⟨by omega, by omega⟩), i_VCj, i_VCl⟩
    · skip
      refine x_A k115_58 (fun _ => rfl) ?_
      refine x_istore k115_59 (ls' := [(8, vi 0), (0, .ref 0), (1, vi x1), (2, vi x2), (3, vi x3), (4, vj x4), (6, vi x6), (7, vi x7)]) (by decide) rfl ?_
      refine x_ls (l := [(0, .ref 0), (1, vi x1), (2, vi x2), (3, vi x3), (4, vj x4), (6, vi x6), (7, vi x7), (8, vi 0)]) (show ([0, 1, 2, 3, 4, 6, 7, 8] : List Nat).Nodup from by decide) ⟨rfl, rfl, rfl, rfl, rfl, rfl, rfl, rfl, trivial⟩ ?_
      exact L_V_X10_likely_0_61 s0 hJ0 a b_a b b_b d b_d pR n (fun s x1 x2 x3 x4 x6 x7 hG f b_x1 b_x2 b_x3 b_x4 b_x6 b_x7 i_VCj i_VCl hm => ih s x1 x2 x3 x4 x6 x7 hG f b_x1 b_x2 b_x3 b_x4 b_x6 b_x7 i_VCj i_VCl  hm) (((40 - 0) + 1 : Int)).toNat s x1 x2 x3 x4 x6 x7 0 hG f (by first | exact x_rb b_x1 rfl rfl | exact ⟨by omega, by omega⟩) (by first | exact x_rb b_x2 rfl rfl | exact ⟨by omega, by omega⟩) (by first | exact x_rb b_x3 rfl rfl | exact ⟨by omega, by omega⟩) b_x4 (by first | exact x_rb b_x6 rfl rfl | exact ⟨by omega, by omega⟩) (by first | exact x_rb b_x7 rfl rfl | exact ⟨by omega, by omega⟩) ⟨by decide, by decide⟩ i_VCj i_VCl (by omega) (by omega)
set_option maxHeartbeats 8000000 in
theorem V_X10_likely_0 (s0 : xS) (hG0 : GI s0) (hJ0 : J s0) (a : Int) (b_a : (-2147483648) ≤ a ∧ a ≤ 2147483647) (b : Int) (b_b : (-2147483648) ≤ b ∧ b ≤ 2147483647) (d : Int) (b_d : (-2147483648) ≤ d ∧ d ≤ 2147483647) (pR : R1 s0) (i0_VCj : VCj s0) (i0_VCl : VCl s0) : xe none 115 0 (lv_args 0 [.ref 0, vi a, vi b, vi d]) [] s0 0 0 (fun s' v => GI s' ∧ FL [3329, 3334, 3335, 3336, 3392, 3456, 3520, 3584, 3276, 3648, 3712, 3776, 3840, 3904, 3968, 3277, 4032] s0 s' ∧ ∃ z, v = some (vi z) ∧ ((-2147483648) ≤ z ∧ z ≤ 2147483647) ∧ VCj s' ∧ VCl s') := by
  have f0 : FL [3329, 3334, 3335, 3336, 3392, 3456, 3520, 3584, 3276, 3648, 3712, 3776, 3840, 3904, 3968, 3277, 4032] s0 s0 := FL.rf
  show xe none 115 0 [(0, .ref 0), (1, vi a), (2, vi b), (3, vi d)] [] s0 0 0 _
  refine x_A k115_0 (fun _ => rfl) ?_
  refine x_getR k115_1 (f := 0) rfl (q := 0) (n := 12) (kd := 3) ⟨by decide, rfl⟩ (q2 := 1) (by decide) rfl ?_
  refine x_A k115_4 (fun _ => rfl) ?_
  obtain ⟨z912, e_z912⟩ : ∃ z, z = s0 1 4 := ⟨_, rfl⟩
  have g_z912 : (1 : Int) ≤ s0 1 4 ∧ s0 1 4 ≤ 40 := hG0 1 4
  refine x_callV k115_5 (y := 59) (n := 1) (w0 := 0) (w1 := 1) (as := [vi a]) (rest := []) (by decide +kernel) (q := 1) (nq := 5) (kq := 4) ⟨by decide, rfl⟩ rfl rfl rfl rfl (xe_mono (C_X7_has_1 s0 hG0 a (by first | exact x_rb b_a rfl rfl | exact ⟨by omega, by omega⟩)) ?_)
  rintro s914 v ⟨h_s914, z913, rfl, hz_z913⟩
  rw [h_s914]
  rcases hz_z913 with ⟨c_z913, e_z913⟩ | ⟨c_z913, e_z913⟩
  · rw [e_z913]
    show xe none 115 8 [(0, .ref 0), (1, vi a), (2, vi b), (3, vi d)] [vi 1] s0 0 0 _
    refine x_if_ne k115_8 (t := 15) rfl ⟨by decide, by decide⟩ (fun c915 => ?_) (fun c915 => by exfalso; omega)
    refine x_A k115_15 (fun _ => rfl) ?_
    refine x_A k115_16 (fun _ => rfl) ?_
    obtain ⟨z916, e_z916⟩ : ∃ z, z = s0 0 10 := ⟨_, rfl⟩
    have g_z916 : (0 : Int) ≤ s0 0 10 ∧ s0 0 10 ≤ 9 := hG0 0 10
    refine x_callV k115_17 (y := 125) (n := 1) (w0 := 0) (w1 := 1) (as := [vi b]) (rest := []) (by decide +kernel) (q := 0) (nq := 12) (kq := 3) ⟨by decide, rfl⟩ rfl rfl rfl rfl (xe_mono (C_X10_isKnownEdition_0 s0 hG0 b (by first | exact x_rb b_b rfl rfl | exact ⟨by omega, by omega⟩)) ?_)
    rintro s918 v ⟨h_s918, z917, rfl, hz_z917⟩
    rw [h_s918]
    rcases hz_z917 with ⟨c_z917, e_z917⟩ | ⟨c_z917, e_z917⟩
    · rw [e_z917]
      show xe none 115 20 [(0, .ref 0), (1, vi a), (2, vi b), (3, vi d)] [vi 1] s0 0 0 _
      refine x_if_ne k115_20 (t := 27) rfl ⟨by decide, by decide⟩ (fun c919 => ?_) (fun c919 => by exfalso; omega)
      refine x_A k115_27 (fun _ => rfl) ?_
      refine x_getR k115_28 (f := 9) rfl (q := 0) (n := 12) (kd := 3) ⟨by decide, rfl⟩ (q2 := 243) (by decide) rfl ?_
      refine x_A k115_31 (fun _ => rfl) ?_
      refine x_callV k115_32 (y := 76) (n := 1) (w0 := 0) (w1 := 1) (as := [vi b]) (rest := []) (by decide +kernel) (q := 243) (nq := 13) (kq := 13) ⟨by decide, rfl⟩ rfl rfl rfl rfl (xe_mono (E_X8_lookIn_243 s0 hG0 (hJ0.fl f0 (by decide)) b (by first | exact x_rb b_b rfl rfl | exact ⟨by omega, by omega⟩) (pR.fl f0 (by decide)) i0_VCj i0_VCl) ?_)
      rintro s921 v ⟨hG_s921, t_s921, rfl, xp_z920⟩
      have f_s921 : FL [3329, 3334, 3335, 3336, 3392, 3456, 3520, 3584, 3276, 3648, 3712, 3776, 3840, 3904, 3968, 3277, 4032] s0 s921 := f0.tr t_s921 (by decide)
      have q922 : s921 1 4 = z912 := (t_s921 1 4 (show 69 ∉ [3329, 3334, 3335, 3336, 3392, 3456, 3520, 3584, 3276, 3648, 3712, 3776, 3840, 3904, 3968, 3277, 4032] from by decide)).trans e_z912.symm
      have q923 : s921 0 10 = z916 := (t_s921 0 10 (show 11 ∉ [3329, 3334, 3335, 3336, 3392, 3456, 3520, 3584, 3276, 3648, 3712, 3776, 3840, 3904, 3968, 3277, 4032] from by decide)).trans e_z916.symm
      obtain ⟨z924, e_z924⟩ : ∃ z, z = s921 243 11 := ⟨_, rfl⟩
      have g_z924 : (0 : Int) ≤ s921 243 11 ∧ s921 243 11 ≤ 1 := hG_s921 243 11
      obtain ⟨z925, e_z925⟩ : ∃ z, z = s921 243 12 := ⟨_, rfl⟩
      have g_z925 : (-1) ≤ s921 243 12 ∧ s921 243 12 ≤ 9 := hG_s921 243 12
      show xe none 115 35 [(0, .ref 0), (1, vi a), (2, vi b), (3, vi d)] [] s921 0 0 _
      have VCj_k : VCj s921 := VCj.judge hG0 t_s921 (by decide) xp_z920.1
      have VCl_k : VCl s921 := VCl.look hG0 t_s921 (by decide) xp_z920.2.1 xp_z920.2.2.1 xp_z920.2.2.2
      refine x_A k115_35 (fun _ => rfl) ?_
      refine x_A k115_36 (fun _ => rfl) ?_
      refine x_A k115_37 (fun _ => rfl) ?_
      refine x_callV k115_38 (y := 132) (n := 2) (w0 := 0) (w1 := 2) (as := [vi a, vi b]) (rest := []) (by decide +kernel) (q := 0) (nq := 12) (kq := 3) ⟨by decide, rfl⟩ rfl rfl rfl rfl (xe_mono (C_X10_goingAlong_0 s921 hG_s921 a (by first | exact x_rb b_a rfl rfl | exact ⟨by omega, by omega⟩) b (by first | exact x_rb b_b rfl rfl | exact ⟨by omega, by omega⟩)) ?_)
      rintro s927 v ⟨-, t_s927, z926, rfl, b_z926⟩
      rw [t_s927.nil]
      show xe none 115 41 [(0, .ref 0), (1, vi a), (2, vi b), (3, vi d)] [vj z926] s921 0 0 _
      refine x_lstore k115_41 (ls' := [(4, vj z926), (0, .ref 0), (1, vi a), (2, vi b), (3, vi d)]) (by decide) rfl ?_
      refine x_A k115_43 (fun _ => rfl) ?_
      refine x_istore k115_44 (ls' := [(6, vi 0), (4, vj z926), (0, .ref 0), (1, vi a), (2, vi b), (3, vi d)]) (by decide) rfl ?_
      refine x_A k115_46 (fun _ => rfl) ?_
      refine x_callS k115_48 (y := 219) (n := 1) (w0 := 0) (w1 := 2) (as := [vj z926]) (rest := []) (by decide +kernel) rfl rfl rfl rfl (xe_mono (E_J13_bitCount_95d88 s921 hG_s921 z926 b_z926) ?_)
      rintro s929 v ⟨-, t_s929, z928, rfl, g_z928, xp_z928⟩
      rw [t_s929.nil]
      try rw [t_s929.nil] at xp_z928
      show xe none 115 51 [(6, vi 0), (4, vj z926), (0, .ref 0), (1, vi a), (2, vi b), (3, vi d)] [vi z928] s921 0 0 _
      refine x_istore k115_51 (ls' := [(7, vi z928), (6, vi 0), (4, vj z926), (0, .ref 0), (1, vi a), (2, vi b), (3, vi d)]) (by decide) rfl ?_
      refine x_ls (l := [(0, .ref 0), (1, vi a), (2, vi b), (3, vi d), (4, vj z926), (6, vi 0), (7, vi z928)]) (show ([0, 1, 2, 3, 4, 6, 7] : List Nat).Nodup from by decide) ⟨rfl, rfl, rfl, rfl, rfl, rfl, rfl, trivial⟩ ?_
      exact L_V_X10_likely_0_53 s0 hJ0 a b_a b b_b d b_d pR  (((z928 - 0) + 1 : Int)).toNat s921 a b d z926 0 z928 hG_s921 f_s921 (by first | exact x_rb b_a rfl rfl | exact ⟨by omega, by omega⟩) (by first | exact x_rb b_b rfl rfl | exact ⟨by omega, by omega⟩) (by first | exact x_rb b_d rfl rfl | exact ⟨by omega, by omega⟩) b_z926 ⟨by decide, by decide⟩ (by first | exact x_rbe e_z928 g_z928 rfl rfl | exact x_rb g_z928 rfl rfl | exact ⟨by omega, by omega⟩) VCj_k VCl_k  (by omega)
    · rw [e_z917]
      show xe none 115 20 [(0, .ref 0), (1, vi a), (2, vi b), (3, vi d)] [vi 0] s0 0 0 _
      refine x_if_ne k115_20 (t := 27) rfl ⟨by decide, by decide⟩ (fun c930 => by exfalso; omega) (fun c930 => ?_)
      refine x_sipush k115_23 (by decide +kernel) ?_
      exact x_iret k115_26 rfl ⟨hG0, f0, (-1002), rfl, ⟨by decide, by decide⟩, i0_VCj, i0_VCl⟩
  · rw [e_z913]
    show xe none 115 8 [(0, .ref 0), (1, vi a), (2, vi b), (3, vi d)] [vi 0] s0 0 0 _
    refine x_if_ne k115_8 (t := 15) rfl ⟨by decide, by decide⟩ (fun c931 => by exfalso; omega) (fun c931 => ?_)
    refine x_sipush k115_11 (by decide +kernel) ?_
    exact x_iret k115_14 rfl ⟨hG0, f0, (-1001), rfl, ⟨by decide, by decide⟩, i0_VCj, i0_VCl⟩
set_option maxHeartbeats 8000000 in
theorem L_V_X10_lacking_0_40 (s0 : xS) (hJ0 : J s0) (a : Int) (b_a : (-2147483648) ≤ a ∧ a ≤ 2147483647) (b : Int) (b_b : (-2147483648) ≤ b ∧ b ≤ 2147483647) (pR : R1 s0)  : ∀ (n : Nat) (s : xS) (x1 : Int) (x2 : Int) (x3 : Int) (x5 : Int) (hG : GI s) (f : FL [3329, 3334, 3335, 3336, 3392, 3456, 3520, 3584, 3276, 3648, 3712, 3776, 3840, 3904, 3968, 3277, 4032] s0 s) (b_x1 : 0 ≤ x1 ∧ x1 ≤ 39) (b_x2 : 0 ≤ x2 ∧ x2 ≤ 9) (b_x3 : in64 x3) (b_x5 : 0 ≤ x5 ∧ x5 ≤ 120) (i_VCj : VCj s) (i_VCl : VCl s)  (hm : (120 - x5) < (n : Int)), xe none 116 40 [(0, .ref 0), (1, vi x1), (2, vi x2), (3, vj x3), (5, vi x5)] [] s 0 0 (fun s' v => GI s' ∧ FL [3329, 3334, 3335, 3336, 3392, 3456, 3520, 3584, 3276, 3648, 3712, 3776, 3840, 3904, 3968, 3277, 4032] s0 s' ∧ ∃ z, v = some (vj z) ∧ in64 z ∧ VCj s' ∧ VCl s') := by
  intro n
  induction n with
  | zero => intro s x1 x2 x3 x5 hG f b_x1 b_x2 b_x3 b_x5 i_VCj i_VCl  hm; exfalso; omega
  | succ n ih =>
    intro s x1 x2 x3 x5 hG f b_x1 b_x2 b_x3 b_x5 i_VCj i_VCl  hm
    refine x_A k116_40 (fun _ => rfl) ?_
    refine x_A k116_42 (fun _ => rfl) ?_
    refine x_getR k116_43 (f := 2) rfl (q := 0) (n := 12) (kd := 3) ⟨by decide, rfl⟩ (q2 := 50) (by decide) rfl ?_
    refine x_getI k116_46 (f := 6) rfl (q := 50) (n := 7) (kd := 6) ⟨by decide, rfl⟩ (by decide) rfl ?_
    refine x_top (fun z585 e_z585 => ?_)
    have g_z585 : (0 : Int) ≤ s 50 6 ∧ s 50 6 ≤ 120 := hG 50 6
    refine x_ic_ge k116_49 (t := 130) rfl (by first | exact x_rb b_x5 rfl rfl | exact ⟨by omega, by omega⟩) (by first | exact x_rbe e_z585 g_z585 rfl rfl | exact x_rb g_z585 rfl rfl | exact ⟨by omega, by omega⟩) (fun c586 => ?_) (fun c586 => ?_)
    · skip
      refine x_A k116_130 (fun _ => rfl) ?_
      refine x_A k116_131 (fun _ => rfl) ?_
      refine x_getR k116_132 (f := 9) rfl (q := 0) (n := 12) (kd := 3) ⟨by decide, rfl⟩ (q2 := 243) (by decide) rfl ?_
      refine x_getR k116_135 (f := 10) rfl (q := 243) (n := 13) (kd := 13) ⟨by decide, rfl⟩ (q2 := 255) (by decide) rfl ?_
      refine x_A k116_138 (fun _ => rfl) ?_
      refine x_lald k116_139 (q := 255) (n := 40) ⟨by decide, rfl⟩ (by decide) (by first | exact x_rbl b_x1 rfl rfl | exact ⟨by omega, by omega⟩) ?_
      refine x_topL (fun z587 e_z587 => ?_)
      have b_z587 : in64 z587 := by rw [e_z587]; exact hG 255 x1.toNat
      refine x_ldc2 k116_140 (z := (-1)) rfl (by decide +kernel) ?_
      refine x_lxor_any k116_143 (fun z588 b_z588 => ?_)
      refine x_land_any k116_144 (fun z589 b_z589 => ?_)
      exact x_lret k116_145 rfl ⟨hG, f, z589, rfl, b_z589, i_VCj, i_VCl⟩
    · skip
      refine x_A k116_52 (fun _ => rfl) ?_
      refine x_getR k116_53 (f := 2) rfl (q := 0) (n := 12) (kd := 3) ⟨by decide, rfl⟩ (q2 := 50) (by decide) rfl ?_
      refine x_getR k116_56 (f := 0) rfl (q := 50) (n := 7) (kd := 6) ⟨by decide, rfl⟩ (q2 := 51) (by decide) rfl ?_
      refine x_A k116_59 (fun _ => rfl) ?_
      refine x_iald k116_61 (q := 51) (n := 120) ⟨by decide, rfl⟩ (by decide) (by first | exact x_rbl b_x5 rfl rfl | exact ⟨by omega, by omega⟩) ?_
      refine x_top (fun z590 e_z590 => ?_)
      have g_z590 : (0 : Int) ≤ s 51 x5.toNat ∧ s 51 x5.toNat ≤ 39 := hG 51 x5.toNat
      refine x_istore k116_62 (ls' := [(6, vi z590), (0, .ref 0), (1, vi x1), (2, vi x2), (3, vj x3), (5, vi x5)]) (by decide) rfl ?_
      refine x_A k116_64 (fun _ => rfl) ?_
      refine x_A k116_66 (fun _ => rfl) ?_
      refine x_ic_eq k116_67 (t := 124) rfl (by first | exact x_rbe e_z590 g_z590 rfl rfl | exact x_rb g_z590 rfl rfl | exact ⟨by omega, by omega⟩) (by first | exact x_rb b_x1 rfl rfl | exact ⟨by omega, by omega⟩) (fun c591 => ?_) (fun c591 => ?_)
      · skip
        refine x_iinc k116_124 (ls' := [(5, vi (x5 + 1)), (6, vi z590), (0, .ref 0), (1, vi x1), (2, vi x2), (3, vj x3)]) rfl (by decide) rfl ?_
        refine x_goto k116_127 (t := 40) rfl ?_
        refine x_ls (l := [(0, .ref 0), (1, vi x1), (2, vi x2), (3, vj x3), (5, vi (x5 + 1))]) (show ([0, 1, 2, 3, 5] : List Nat).Nodup from by decide) ⟨rfl, rfl, rfl, rfl, rfl, trivial⟩ ?_
        exact ih s x1 x2 x3 (x5 + 1) hG f (by first | exact x_rb b_x1 rfl rfl | exact ⟨by omega, by omega⟩) (by first | exact x_rb b_x2 rfl rfl | exact ⟨by omega, by omega⟩) b_x3 ⟨by omega, by omega⟩ i_VCj i_VCl  (by omega)
      · skip
        refine x_A k116_70 (fun _ => rfl) ?_
        refine x_getR k116_71 (f := 1) rfl (q := 0) (n := 12) (kd := 3) ⟨by decide, rfl⟩ (q2 := 46) (by decide) rfl ?_
        refine x_getR k116_74 (f := 2) rfl (q := 46) (n := 4) (kd := 5) ⟨by decide, rfl⟩ (q2 := 49) (by decide) rfl ?_
        refine x_A k116_77 (fun _ => rfl) ?_
        refine x_iald k116_79 (q := 49) (n := 40) ⟨by decide, rfl⟩ (by decide) (by first | exact x_rbel e_z590 g_z590 rfl rfl | exact x_rbl g_z590 rfl rfl | exact ⟨by omega, by omega⟩) ?_
        refine x_top (fun z592 e_z592 => ?_)
        have g_z592 : (0 : Int) ≤ s 49 z590.toNat ∧ s 49 z590.toNat ≤ 39 := hG 49 z590.toNat
        refine x_A k116_80 (fun _ => rfl) ?_
        refine x_getR k116_81 (f := 1) rfl (q := 0) (n := 12) (kd := 3) ⟨by decide, rfl⟩ (q2 := 46) (by decide) rfl ?_
        refine x_getR k116_84 (f := 2) rfl (q := 46) (n := 4) (kd := 5) ⟨by decide, rfl⟩ (q2 := 49) (by decide) rfl ?_
        refine x_A k116_87 (fun _ => rfl) ?_
        refine x_iald k116_88 (q := 49) (n := 40) ⟨by decide, rfl⟩ (by decide) (by first | exact x_rbl b_x1 rfl rfl | exact ⟨by omega, by omega⟩) ?_
        refine x_top (fun z593 e_z593 => ?_)
        have g_z593 : (0 : Int) ≤ s 49 x1.toNat ∧ s 49 x1.toNat ≤ 39 := hG 49 x1.toNat
        refine x_ic_eq k116_89 (t := 95) rfl (by first | exact x_rbe e_z592 g_z592 rfl rfl | exact x_rb g_z592 rfl rfl | exact ⟨by omega, by omega⟩) (by first | exact x_rbe e_z593 g_z593 rfl rfl | exact x_rb g_z593 rfl rfl | exact ⟨by omega, by omega⟩) (fun c594 => ?_) (fun c594 => ?_)
        · skip
          refine x_A k116_95 (fun _ => rfl) ?_
          refine x_getR k116_96 (f := 9) rfl (q := 0) (n := 12) (kd := 3) ⟨by decide, rfl⟩ (q2 := 243) (by decide) rfl ?_
          refine x_getR k116_99 (f := 8) rfl (q := 243) (n := 13) (kd := 13) ⟨by decide, rfl⟩ (q2 := 253) (by decide) rfl ?_
          refine x_A k116_102 (fun _ => rfl) ?_
          refine x_iald k116_104 (q := 253) (n := 120) ⟨by decide, rfl⟩ (by decide) (by first | exact x_rbl b_x5 rfl rfl | exact ⟨by omega, by omega⟩) ?_
          refine x_top (fun z595 e_z595 => ?_)
          have g_z595 : (-1) ≤ s 253 x5.toNat ∧ s 253 x5.toNat ≤ 39 := hG 253 x5.toNat
          refine x_A k116_105 (fun _ => rfl) ?_
          refine x_ic_eq k116_106 (t := 124) rfl (by first | exact x_rbe e_z595 g_z595 rfl rfl | exact x_rb g_z595 rfl rfl | exact ⟨by omega, by omega⟩) ⟨by decide, by decide⟩ (fun c596 => ?_) (fun c596 => ?_)
          · skip
            refine x_iinc k116_124 (ls' := [(5, vi (x5 + 1)), (6, vi z590), (0, .ref 0), (1, vi x1), (2, vi x2), (3, vj x3)]) rfl (by decide) rfl ?_
            refine x_goto k116_127 (t := 40) rfl ?_
            refine x_ls (l := [(0, .ref 0), (1, vi x1), (2, vi x2), (3, vj x3), (5, vi (x5 + 1))]) (show ([0, 1, 2, 3, 5] : List Nat).Nodup from by decide) ⟨rfl, rfl, rfl, rfl, rfl, trivial⟩ ?_
            exact ih s x1 x2 x3 (x5 + 1) hG f (by first | exact x_rb b_x1 rfl rfl | exact ⟨by omega, by omega⟩) (by first | exact x_rb b_x2 rfl rfl | exact ⟨by omega, by omega⟩) b_x3 ⟨by omega, by omega⟩ i_VCj i_VCl  (by omega)
          · skip
            refine x_A k116_109 (fun _ => rfl) ?_
            refine x_lconst k116_110 (z := 1) (by decide +kernel) ?_
            refine x_A k116_111 (fun _ => rfl) ?_
            refine x_getR k116_112 (f := 9) rfl (q := 0) (n := 12) (kd := 3) ⟨by decide, rfl⟩ (q2 := 243) (by decide) rfl ?_
            refine x_getR k116_115 (f := 8) rfl (q := 243) (n := 13) (kd := 13) ⟨by decide, rfl⟩ (q2 := 253) (by decide) rfl ?_
            refine x_A k116_118 (fun _ => rfl) ?_
            refine x_iald k116_120 (q := 253) (n := 120) ⟨by decide, rfl⟩ (by decide) (by first | exact x_rbl b_x5 rfl rfl | exact ⟨by omega, by omega⟩) ?_
            rw [e_z595.symm]
            refine x_lshl_any k116_121 (fun z597 b_z597 => ?_)
            refine x_lor_any k116_122 (fun z598 b_z598 => ?_)
            refine x_lstore_n k116_123 (ls' := [(3, vj z598), (6, vi z590), (0, .ref 0), (1, vi x1), (2, vi x2), (5, vi x5)]) (by decide) rfl ?_
            refine x_iinc k116_124 (ls' := [(5, vi (x5 + 1)), (3, vj z598), (6, vi z590), (0, .ref 0), (1, vi x1), (2, vi x2)]) rfl (by decide) rfl ?_
            refine x_goto k116_127 (t := 40) rfl ?_
            refine x_ls (l := [(0, .ref 0), (1, vi x1), (2, vi x2), (3, vj z598), (5, vi (x5 + 1))]) (show ([0, 1, 2, 3, 5] : List Nat).Nodup from by decide) ⟨rfl, rfl, rfl, rfl, rfl, trivial⟩ ?_
            exact ih s x1 x2 z598 (x5 + 1) hG f (by first | exact x_rb b_x1 rfl rfl | exact ⟨by omega, by omega⟩) (by first | exact x_rb b_x2 rfl rfl | exact ⟨by omega, by omega⟩) b_z598 ⟨by omega, by omega⟩ i_VCj i_VCl  (by omega)
        · skip
          refine x_goto k116_92 (t := 124) rfl ?_
          refine x_iinc k116_124 (ls' := [(5, vi (x5 + 1)), (6, vi z590), (0, .ref 0), (1, vi x1), (2, vi x2), (3, vj x3)]) rfl (by decide) rfl ?_
          refine x_goto k116_127 (t := 40) rfl ?_
          refine x_ls (l := [(0, .ref 0), (1, vi x1), (2, vi x2), (3, vj x3), (5, vi (x5 + 1))]) (show ([0, 1, 2, 3, 5] : List Nat).Nodup from by decide) ⟨rfl, rfl, rfl, rfl, rfl, trivial⟩ ?_
          exact ih s x1 x2 x3 (x5 + 1) hG f (by first | exact x_rb b_x1 rfl rfl | exact ⟨by omega, by omega⟩) (by first | exact x_rb b_x2 rfl rfl | exact ⟨by omega, by omega⟩) b_x3 ⟨by omega, by omega⟩ i_VCj i_VCl  (by omega)
set_option maxHeartbeats 8000000 in
theorem V_X10_lacking_0 (s0 : xS) (hG0 : GI s0) (hJ0 : J s0) (a : Int) (b_a : (-2147483648) ≤ a ∧ a ≤ 2147483647) (b : Int) (b_b : (-2147483648) ≤ b ∧ b ≤ 2147483647) (pR : R1 s0) (i0_VCj : VCj s0) (i0_VCl : VCl s0) : xe none 116 0 (lv_args 0 [.ref 0, vi a, vi b]) [] s0 0 0 (fun s' v => GI s' ∧ FL [3329, 3334, 3335, 3336, 3392, 3456, 3520, 3584, 3276, 3648, 3712, 3776, 3840, 3904, 3968, 3277, 4032] s0 s' ∧ ∃ z, v = some (vj z) ∧ in64 z ∧ VCj s' ∧ VCl s') := by
  have f0 : FL [3329, 3334, 3335, 3336, 3392, 3456, 3520, 3584, 3276, 3648, 3712, 3776, 3840, 3904, 3968, 3277, 4032] s0 s0 := FL.rf
  show xe none 116 0 [(0, .ref 0), (1, vi a), (2, vi b)] [] s0 0 0 _
  refine x_A k116_0 (fun _ => rfl) ?_
  refine x_getR k116_1 (f := 1) rfl (q := 0) (n := 12) (kd := 3) ⟨by decide, rfl⟩ (q2 := 46) (by decide) rfl ?_
  refine x_A k116_4 (fun _ => rfl) ?_
  obtain ⟨z599, e_z599⟩ : ∃ z, z = s0 46 3 := ⟨_, rfl⟩
  have g_z599 : (0 : Int) ≤ s0 46 3 ∧ s0 46 3 ≤ 40 := hG0 46 3
  refine x_callV k116_5 (y := 29) (n := 1) (w0 := 0) (w1 := 1) (as := [vi a]) (rest := []) (by decide +kernel) (q := 46) (nq := 4) (kq := 5) ⟨by decide, rfl⟩ rfl rfl rfl rfl (xe_mono (C_X3_has_46 s0 hG0 a (by first | exact x_rb b_a rfl rfl | exact ⟨by omega, by omega⟩)) ?_)
  rintro s601 v ⟨h_s601, z600, rfl, hz_z600⟩
  rw [h_s601]
  rcases hz_z600 with ⟨c_z600, e_z600⟩ | ⟨c_z600, e_z600⟩
  · rw [e_z600]
    show xe none 116 8 [(0, .ref 0), (1, vi a), (2, vi b)] [vi 1] s0 0 0 _
    refine x_if_ne k116_8 (t := 15) rfl ⟨by decide, by decide⟩ (fun c602 => ?_) (fun c602 => by exfalso; omega)
    refine x_A k116_15 (fun _ => rfl) ?_
    refine x_A k116_16 (fun _ => rfl) ?_
    obtain ⟨z603, e_z603⟩ : ∃ z, z = s0 0 10 := ⟨_, rfl⟩
    have g_z603 : (0 : Int) ≤ s0 0 10 ∧ s0 0 10 ≤ 9 := hG0 0 10
    refine x_callV k116_17 (y := 125) (n := 1) (w0 := 0) (w1 := 1) (as := [vi b]) (rest := []) (by decide +kernel) (q := 0) (nq := 12) (kq := 3) ⟨by decide, rfl⟩ rfl rfl rfl rfl (xe_mono (C_X10_isKnownEdition_0 s0 hG0 b (by first | exact x_rb b_b rfl rfl | exact ⟨by omega, by omega⟩)) ?_)
    rintro s605 v ⟨h_s605, z604, rfl, hz_z604⟩
    rw [h_s605]
    rcases hz_z604 with ⟨c_z604, e_z604⟩ | ⟨c_z604, e_z604⟩
    · rw [e_z604]
      show xe none 116 20 [(0, .ref 0), (1, vi a), (2, vi b)] [vi 1] s0 0 0 _
      refine x_if_ne k116_20 (t := 27) rfl ⟨by decide, by decide⟩ (fun c606 => ?_) (fun c606 => by exfalso; omega)
      refine x_A k116_27 (fun _ => rfl) ?_
      refine x_getR k116_28 (f := 9) rfl (q := 0) (n := 12) (kd := 3) ⟨by decide, rfl⟩ (q2 := 243) (by decide) rfl ?_
      refine x_A k116_31 (fun _ => rfl) ?_
      refine x_callV k116_32 (y := 76) (n := 1) (w0 := 0) (w1 := 1) (as := [vi b]) (rest := []) (by decide +kernel) (q := 243) (nq := 13) (kq := 13) ⟨by decide, rfl⟩ rfl rfl rfl rfl (xe_mono (E_X8_lookIn_243 s0 hG0 (hJ0.fl f0 (by decide)) b (by first | exact x_rb b_b rfl rfl | exact ⟨by omega, by omega⟩) (pR.fl f0 (by decide)) i0_VCj i0_VCl) ?_)
      rintro s608 v ⟨hG_s608, t_s608, rfl, xp_z607⟩
      have f_s608 : FL [3329, 3334, 3335, 3336, 3392, 3456, 3520, 3584, 3276, 3648, 3712, 3776, 3840, 3904, 3968, 3277, 4032] s0 s608 := f0.tr t_s608 (by decide)
      have q609 : s608 46 3 = z599 := (t_s608 46 3 (show 452 ∉ [3329, 3334, 3335, 3336, 3392, 3456, 3520, 3584, 3276, 3648, 3712, 3776, 3840, 3904, 3968, 3277, 4032] from by decide)).trans e_z599.symm
      have q610 : s608 0 10 = z603 := (t_s608 0 10 (show 11 ∉ [3329, 3334, 3335, 3336, 3392, 3456, 3520, 3584, 3276, 3648, 3712, 3776, 3840, 3904, 3968, 3277, 4032] from by decide)).trans e_z603.symm
      obtain ⟨z611, e_z611⟩ : ∃ z, z = s608 243 11 := ⟨_, rfl⟩
      have g_z611 : (0 : Int) ≤ s608 243 11 ∧ s608 243 11 ≤ 1 := hG_s608 243 11
      obtain ⟨z612, e_z612⟩ : ∃ z, z = s608 243 12 := ⟨_, rfl⟩
      have g_z612 : (-1) ≤ s608 243 12 ∧ s608 243 12 ≤ 9 := hG_s608 243 12
      show xe none 116 35 [(0, .ref 0), (1, vi a), (2, vi b)] [] s608 0 0 _
      have VCj_k : VCj s608 := VCj.judge hG0 t_s608 (by decide) xp_z607.1
      have VCl_k : VCl s608 := VCl.look hG0 t_s608 (by decide) xp_z607.2.1 xp_z607.2.2.1 xp_z607.2.2.2
      refine x_lconst k116_35 (z := 0) (by decide +kernel) ?_
      refine x_lstore_n k116_36 (ls' := [(3, vj 0), (0, .ref 0), (1, vi a), (2, vi b)]) (by decide) rfl ?_
      refine x_A k116_37 (fun _ => rfl) ?_
      refine x_istore k116_38 (ls' := [(5, vi 0), (3, vj 0), (0, .ref 0), (1, vi a), (2, vi b)]) (by decide) rfl ?_
      refine x_ls (l := [(0, .ref 0), (1, vi a), (2, vi b), (3, vj 0), (5, vi 0)]) (show ([0, 1, 2, 3, 5] : List Nat).Nodup from by decide) ⟨rfl, rfl, rfl, rfl, rfl, trivial⟩ ?_
      exact L_V_X10_lacking_0_40 s0 hJ0 a b_a b b_b pR  (((120 - 0) + 1 : Int)).toNat s608 a b 0 0 hG_s608 f_s608 (by first | exact x_rb b_a rfl rfl | exact ⟨by omega, by omega⟩) (by first | exact x_rb b_b rfl rfl | exact ⟨by omega, by omega⟩) ⟨by omega, by omega⟩ ⟨by decide, by decide⟩ VCj_k VCl_k  (by omega)
    · rw [e_z604]
      show xe none 116 20 [(0, .ref 0), (1, vi a), (2, vi b)] [vi 0] s0 0 0 _
      refine x_if_ne k116_20 (t := 27) rfl ⟨by decide, by decide⟩ (fun c613 => by exfalso; omega) (fun c613 => ?_)
      refine x_ldc2 k116_23 (z := (-1002)) rfl (by decide +kernel) ?_
      exact x_lret k116_26 rfl ⟨hG0, f0, (-1002), rfl, ⟨by omega, by omega⟩, i0_VCj, i0_VCl⟩
  · rw [e_z600]
    show xe none 116 8 [(0, .ref 0), (1, vi a), (2, vi b)] [vi 0] s0 0 0 _
    refine x_if_ne k116_8 (t := 15) rfl ⟨by decide, by decide⟩ (fun c614 => by exfalso; omega) (fun c614 => ?_)
    refine x_ldc2 k116_11 (z := (-1001)) rfl (by decide +kernel) ?_
    exact x_lret k116_14 rfl ⟨hG0, f0, (-1001), rfl, ⟨by omega, by omega⟩, i0_VCj, i0_VCl⟩
set_option maxHeartbeats 8000000 in
theorem L_V_X10_of_0_75 (s0 : xS) (hJ0 : J s0) (a : Int) (b_a : (-2147483648) ≤ a ∧ a ≤ 2147483647) (b : Int) (b_b : (-2147483648) ≤ b ∧ b ≤ 2147483647) (d : Int) (b_d : (-2147483648) ≤ d ∧ d ≤ 2147483647) (e : Int) (b_e : (-2147483648) ≤ e ∧ e ≤ 2147483647) (pR : R1 s0)  : ∀ (n : Nat) (s : xS) (x1 : Int) (x2 : Int) (x3 : Int) (x4 : Int) (x5 : Int) (x6 : Int) (x7 : Int) (hG : GI s) (f : FL [3329, 3334, 3335, 3336, 3392, 3456, 3520, 3584, 3276, 3648, 3712, 3776, 3840, 3904, 3968, 3277, 4032] s0 s) (b_x1 : 0 ≤ x1 ∧ x1 ≤ 39) (b_x2 : 0 ≤ x2 ∧ x2 ≤ 3) (b_x3 : 0 ≤ x3 ∧ x3 ≤ 9) (b_x4 : 0 ≤ x4 ∧ x4 ≤ 2) (b_x5 : (-2147483648) ≤ x5 ∧ x5 ≤ 2147483647) (b_x6 : (-1) ≤ x6 ∧ x6 ≤ 4) (b_x7 : (-1) ≤ x7 ∧ x7 ≤ 4) (i_VCj : VCj s) (i_VCl : VCl s)  (hm : (x7 - (-1)) < (n : Int)), xe none 119 75 [(0, .ref 0), (1, vi x1), (2, vi x2), (3, vi x3), (4, vi x4), (5, vi x5), (6, vi x6), (7, vi x7)] [] s 0 0 (fun s' v => GI s' ∧ FL [3329, 3334, 3335, 3336, 3392, 3456, 3520, 3584, 3276, 3648, 3712, 3776, 3840, 3904, 3968, 3277, 4032] s0 s' ∧ ∃ z, v = some (vi z) ∧ ((-2147483648) ≤ z ∧ z ≤ 2147483647) ∧ VCj s' ∧ VCl s') := by
  intro n
  induction n with
  | zero => intro s x1 x2 x3 x4 x5 x6 x7 hG f b_x1 b_x2 b_x3 b_x4 b_x5 b_x6 b_x7 i_VCj i_VCl  hm; exfalso; omega
  | succ n ih =>
    intro s x1 x2 x3 x4 x5 x6 x7 hG f b_x1 b_x2 b_x3 b_x4 b_x5 b_x6 b_x7 i_VCj i_VCl  hm
    refine x_A k119_75 (fun _ => rfl) ?_
    refine x_if_lt k119_77 (t := 127) rfl (by first | exact x_rb b_x7 rfl rfl | exact ⟨by omega, by omega⟩) (fun c1014 => ?_) (fun c1014 => ?_)
    · skip
      refine x_A k119_127 (fun _ => rfl) ?_
      have c1015 : x4 = 0 ∨ x4 = 1 ∨ x4 = 2 := by omega
      rcases c1015 with c1015 | c1015 | c1015
      · rw [c1015]
        refine x_B k119_129 rfl (fun _ => rfl) (fun _ => rfl) (fun _ _ => rfl) ?_
        show xe none 119 156 [(0, .ref 0), (1, vi x1), (2, vi x2), (3, vi x3), (4, vi 0), (5, vi x5), (6, vi x6), (7, vi x7)] [] s 0 0 _
        refine x_A k119_156 (fun _ => rfl) ?_
        exact x_iret k119_158 rfl ⟨hG, f, x5, rfl, (by first | exact x_rb b_x5 rfl rfl | exact ⟨by omega, by omega⟩), i_VCj, i_VCl⟩
      · rw [c1015]
        refine x_B k119_129 rfl (fun _ => rfl) (fun _ => rfl) (fun _ _ => rfl) ?_
        show xe none 119 159 [(0, .ref 0), (1, vi x1), (2, vi x2), (3, vi x3), (4, vi 1), (5, vi x5), (6, vi x6), (7, vi x7)] [] s 0 0 _
        refine x_A k119_159 (fun _ => rfl) ?_
        exact x_iret k119_161 rfl ⟨hG, f, x6, rfl, (by first | exact x_rb b_x6 rfl rfl | exact ⟨by omega, by omega⟩), i_VCj, i_VCl⟩
      · rw [c1015]
        refine x_B k119_129 rfl (fun _ => rfl) (fun _ => rfl) (fun _ _ => rfl) ?_
        show xe none 119 162 [(0, .ref 0), (1, vi x1), (2, vi x2), (3, vi x3), (4, vi 2), (5, vi x5), (6, vi x6), (7, vi x7)] [] s 0 0 _
        refine x_A k119_162 (fun _ => rfl) ?_
        refine x_A k119_164 (fun _ => rfl) ?_
        refine x_ic_ne k119_165 (t := 172) rfl (by first | exact x_rb b_x5 rfl rfl | exact ⟨by omega, by omega⟩) ⟨by decide, by decide⟩ (fun c1016 => ?_) (fun c1016 => ?_)
        · skip
          refine x_A k119_172 (fun _ => rfl) ?_
          refine x_callS k119_173 (y := 126) (n := 1) (w0 := 0) (w1 := 1) (as := [vi 0]) (rest := []) (by decide +kernel) rfl rfl rfl rfl (xe_mono (C_X10_oneIf s hG 0 ⟨by decide, by decide⟩) ?_)
          rintro s1018 v ⟨-, t_s1018, z1017, rfl, g_z1017⟩
          rw [t_s1018.nil]
          show xe none 119 176 [(0, .ref 0), (1, vi x1), (2, vi x2), (3, vi x3), (4, vi 2), (5, vi x5), (6, vi x6), (7, vi x7)] [vi z1017] s 0 0 _
          exact x_iret k119_176 rfl ⟨hG, f, z1017, rfl, (by first | exact x_rbe e_z1017 g_z1017 rfl rfl | exact x_rb g_z1017 rfl rfl | exact ⟨by omega, by omega⟩), i_VCj, i_VCl⟩
        · skip
          refine x_A k119_168 (fun _ => rfl) ?_
          refine x_goto k119_169 (t := 173) rfl ?_
          refine x_callS k119_173 (y := 126) (n := 1) (w0 := 0) (w1 := 1) (as := [vi 1]) (rest := []) (by decide +kernel) rfl rfl rfl rfl (xe_mono (C_X10_oneIf s hG 1 ⟨by decide, by decide⟩) ?_)
          rintro s1020 v ⟨-, t_s1020, z1019, rfl, g_z1019⟩
          rw [t_s1020.nil]
          show xe none 119 176 [(0, .ref 0), (1, vi x1), (2, vi x2), (3, vi x3), (4, vi 2), (5, vi x5), (6, vi x6), (7, vi x7)] [vi z1019] s 0 0 _
          exact x_iret k119_176 rfl ⟨hG, f, z1019, rfl, (by first | exact x_rbe e_z1019 g_z1019 rfl rfl | exact x_rb g_z1019 rfl rfl | exact ⟨by omega, by omega⟩), i_VCj, i_VCl⟩
    · skip
      refine x_A k119_80 (fun _ => rfl) ?_
      refine x_getR k119_81 (f := 8) rfl (q := 0) (n := 12) (kd := 3) ⟨by decide, rfl⟩ (q2 := 231) (by decide) rfl ?_
      refine x_getR k119_84 (f := 2) rfl (q := 231) (n := 4) (kd := 12) ⟨by decide, rfl⟩ (q2 := 238) (by decide) rfl ?_
      refine x_A k119_87 (fun _ => rfl) ?_
      refine x_aald k119_88 (q := 238) (t := 24) (n := 4) ⟨by decide, rfl⟩ (by decide) (by decide) ⟨by omega, by omega⟩ ?_
      refine x_A k119_89 (fun _ => rfl) ?_
      refine x_lald k119_91 (q := (238 + 1 + x2.toNat)) (n := 5) (xg_239 (by omega) (by omega)) (by decide) (by first | exact x_rbl b_x7 rfl rfl | exact ⟨by omega, by omega⟩) ?_
      refine x_topL (fun z1021 e_z1021 => ?_)
      have r_z1021 := hG (238 + 1 + x2.toNat) x7.toNat
      rw [(gr_239 x7.toNat (show 239 ≤ (238 + 1 + x2.toNat) by omega) (by omega)).1, (gr_239 x7.toNat (show 239 ≤ (238 + 1 + x2.toNat) by omega) (by omega)).2.1, ← e_z1021] at r_z1021
      have b_z1021 : in64 z1021 := r_z1021
      refine x_A k119_92 (fun _ => rfl) ?_
      refine x_getR k119_93 (f := 9) rfl (q := 0) (n := 12) (kd := 3) ⟨by decide, rfl⟩ (q2 := 243) (by decide) rfl ?_
      refine x_getR k119_96 (f := 10) rfl (q := 243) (n := 13) (kd := 13) ⟨by decide, rfl⟩ (q2 := 255) (by decide) rfl ?_
      refine x_A k119_99 (fun _ => rfl) ?_
      refine x_lald k119_100 (q := 255) (n := 40) ⟨by decide, rfl⟩ (by decide) (by first | exact x_rbl b_x1 rfl rfl | exact ⟨by omega, by omega⟩) ?_
      refine x_topL (fun z1022 e_z1022 => ?_)
      have b_z1022 : in64 z1022 := by rw [e_z1022]; exact hG 255 x1.toNat
      refine x_ldc2 k119_101 (z := (-1)) rfl (by decide +kernel) ?_
      refine x_lxor_any k119_104 (fun z1023 b_z1023 => ?_)
      refine x_land_any k119_105 (fun z1024 b_z1024 => ?_)
      refine x_lconst k119_106 (z := 0) (by decide +kernel) ?_
      refine x_lc_eq k119_107 k119_108 (t := 114) rfl b_z1024 ⟨by omega, by omega⟩ (fun c1025 => ?_) (fun c1025 => ?_)
      · skip
        refine x_iinc k119_114 (ls' := [(5, vi (x5 + 1)), (0, .ref 0), (1, vi x1), (2, vi x2), (3, vi x3), (4, vi x4), (6, vi x6), (7, vi x7)]) rfl (by decide) rfl ?_
        obtain ⟨z1026, g_z1026, e_z1026⟩ := x_wrap (x5 + 1)
        unfold in32 at g_z1026
        rw [e_z1026]
        refine x_A k119_117 (fun _ => rfl) ?_
        refine x_istore k119_119 (ls' := [(6, vi x7), (5, vi z1026), (0, .ref 0), (1, vi x1), (2, vi x2), (3, vi x3), (4, vi x4), (7, vi x7)]) (by decide) rfl ?_
        refine x_iinc k119_121 (ls' := [(7, vi (x7 + (-1))), (6, vi x7), (5, vi z1026), (0, .ref 0), (1, vi x1), (2, vi x2), (3, vi x3), (4, vi x4)]) rfl (by decide) rfl ?_
        refine x_goto k119_124 (t := 75) rfl ?_
        refine x_ls (l := [(0, .ref 0), (1, vi x1), (2, vi x2), (3, vi x3), (4, vi x4), (5, vi z1026), (6, vi x7), (7, vi (x7 + (-1)))]) (show ([0, 1, 2, 3, 4, 5, 6, 7] : List Nat).Nodup from by decide) ⟨rfl, rfl, rfl, rfl, rfl, rfl, rfl, rfl, trivial⟩ ?_
        exact ih s x1 x2 x3 x4 z1026 x7 (x7 + (-1)) hG f (by first | exact x_rb b_x1 rfl rfl | exact ⟨by omega, by omega⟩) (by first | exact x_rb b_x2 rfl rfl | exact ⟨by omega, by omega⟩) (by first | exact x_rb b_x3 rfl rfl | exact ⟨by omega, by omega⟩) (by first | exact x_rb b_x4 rfl rfl | exact ⟨by omega, by omega⟩) (by first | exact x_rbe e_z1026 g_z1026 rfl rfl | exact x_rb g_z1026 rfl rfl | exact ⟨by omega, by omega⟩) (by first | exact x_rb b_x7 rfl rfl | exact ⟨by omega, by omega⟩) ⟨by omega, by omega⟩ i_VCj i_VCl  (by omega)
      · skip
        refine x_goto k119_111 (t := 121) rfl ?_
        refine x_iinc k119_121 (ls' := [(7, vi (x7 + (-1))), (0, .ref 0), (1, vi x1), (2, vi x2), (3, vi x3), (4, vi x4), (5, vi x5), (6, vi x6)]) rfl (by decide) rfl ?_
        refine x_goto k119_124 (t := 75) rfl ?_
        refine x_ls (l := [(0, .ref 0), (1, vi x1), (2, vi x2), (3, vi x3), (4, vi x4), (5, vi x5), (6, vi x6), (7, vi (x7 + (-1)))]) (show ([0, 1, 2, 3, 4, 5, 6, 7] : List Nat).Nodup from by decide) ⟨rfl, rfl, rfl, rfl, rfl, rfl, rfl, rfl, trivial⟩ ?_
        exact ih s x1 x2 x3 x4 x5 x6 (x7 + (-1)) hG f (by first | exact x_rb b_x1 rfl rfl | exact ⟨by omega, by omega⟩) (by first | exact x_rb b_x2 rfl rfl | exact ⟨by omega, by omega⟩) (by first | exact x_rb b_x3 rfl rfl | exact ⟨by omega, by omega⟩) (by first | exact x_rb b_x4 rfl rfl | exact ⟨by omega, by omega⟩) (by first | exact x_rb b_x5 rfl rfl | exact ⟨by omega, by omega⟩) (by first | exact x_rb b_x6 rfl rfl | exact ⟨by omega, by omega⟩) ⟨by omega, by omega⟩ i_VCj i_VCl  (by omega)
set_option maxHeartbeats 8000000 in
theorem V_X10_of_0 (s0 : xS) (hG0 : GI s0) (hJ0 : J s0) (a : Int) (b_a : (-2147483648) ≤ a ∧ a ≤ 2147483647) (b : Int) (b_b : (-2147483648) ≤ b ∧ b ≤ 2147483647) (d : Int) (b_d : (-2147483648) ≤ d ∧ d ≤ 2147483647) (e : Int) (b_e : (-2147483648) ≤ e ∧ e ≤ 2147483647) (pR : R1 s0) (i0_VCj : VCj s0) (i0_VCl : VCl s0) : xe none 119 0 (lv_args 0 [.ref 0, vi a, vi b, vi d, vi e]) [] s0 0 0 (fun s' v => GI s' ∧ FL [3329, 3334, 3335, 3336, 3392, 3456, 3520, 3584, 3276, 3648, 3712, 3776, 3840, 3904, 3968, 3277, 4032] s0 s' ∧ ∃ z, v = some (vi z) ∧ ((-2147483648) ≤ z ∧ z ≤ 2147483647) ∧ VCj s' ∧ VCl s') := by
  have f0 : FL [3329, 3334, 3335, 3336, 3392, 3456, 3520, 3584, 3276, 3648, 3712, 3776, 3840, 3904, 3968, 3277, 4032] s0 s0 := FL.rf
  show xe none 119 0 [(0, .ref 0), (1, vi a), (2, vi b), (3, vi d), (4, vi e)] [] s0 0 0 _
  refine x_A k119_0 (fun _ => rfl) ?_
  refine x_getR k119_1 (f := 1) rfl (q := 0) (n := 12) (kd := 3) ⟨by decide, rfl⟩ (q2 := 46) (by decide) rfl ?_
  refine x_A k119_4 (fun _ => rfl) ?_
  obtain ⟨z1027, e_z1027⟩ : ∃ z, z = s0 46 3 := ⟨_, rfl⟩
  have g_z1027 : (0 : Int) ≤ s0 46 3 ∧ s0 46 3 ≤ 40 := hG0 46 3
  refine x_callV k119_5 (y := 29) (n := 1) (w0 := 0) (w1 := 1) (as := [vi a]) (rest := []) (by decide +kernel) (q := 46) (nq := 4) (kq := 5) ⟨by decide, rfl⟩ rfl rfl rfl rfl (xe_mono (C_X3_has_46 s0 hG0 a (by first | exact x_rb b_a rfl rfl | exact ⟨by omega, by omega⟩)) ?_)
  rintro s1029 v ⟨h_s1029, z1028, rfl, hz_z1028⟩
  rw [h_s1029]
  rcases hz_z1028 with ⟨c_z1028, e_z1028⟩ | ⟨c_z1028, e_z1028⟩
  · rw [e_z1028]
    show xe none 119 8 [(0, .ref 0), (1, vi a), (2, vi b), (3, vi d), (4, vi e)] [vi 1] s0 0 0 _
    refine x_if_eq k119_8 (t := 22) rfl ⟨by decide, by decide⟩ (fun c1030 => by exfalso; omega) (fun c1030 => ?_)
    refine x_A k119_11 (fun _ => rfl) ?_
    refine x_getR k119_12 (f := 8) rfl (q := 0) (n := 12) (kd := 3) ⟨by decide, rfl⟩ (q2 := 231) (by decide) rfl ?_
    refine x_A k119_15 (fun _ => rfl) ?_
    obtain ⟨z1031, e_z1031⟩ : ∃ z, z = s0 231 3 := ⟨_, rfl⟩
    have g_z1031 : (0 : Int) ≤ s0 231 3 ∧ s0 231 3 ≤ 4 := hG0 231 3
    refine x_callV k119_16 (y := 43) (n := 1) (w0 := 0) (w1 := 1) (as := [vi b]) (rest := []) (by decide +kernel) (q := 231) (nq := 4) (kq := 12) ⟨by decide, rfl⟩ rfl rfl rfl rfl (xe_mono (C_X5_has_231 s0 hG0 b (by first | exact x_rb b_b rfl rfl | exact ⟨by omega, by omega⟩)) ?_)
    rintro s1033 v ⟨h_s1033, z1032, rfl, hz_z1032⟩
    rw [h_s1033]
    rcases hz_z1032 with ⟨c_z1032, e_z1032⟩ | ⟨c_z1032, e_z1032⟩
    · rw [e_z1032]
      show xe none 119 19 [(0, .ref 0), (1, vi a), (2, vi b), (3, vi d), (4, vi e)] [vi 1] s0 0 0 _
      refine x_if_ne k119_19 (t := 26) rfl ⟨by decide, by decide⟩ (fun c1034 => ?_) (fun c1034 => by exfalso; omega)
      refine x_A k119_26 (fun _ => rfl) ?_
      refine x_A k119_27 (fun _ => rfl) ?_
      obtain ⟨z1035, e_z1035⟩ : ∃ z, z = s0 0 10 := ⟨_, rfl⟩
      have g_z1035 : (0 : Int) ≤ s0 0 10 ∧ s0 0 10 ≤ 9 := hG0 0 10
      refine x_callV k119_28 (y := 125) (n := 1) (w0 := 0) (w1 := 1) (as := [vi d]) (rest := []) (by decide +kernel) (q := 0) (nq := 12) (kq := 3) ⟨by decide, rfl⟩ rfl rfl rfl rfl (xe_mono (C_X10_isKnownEdition_0 s0 hG0 d (by first | exact x_rb b_d rfl rfl | exact ⟨by omega, by omega⟩)) ?_)
      rintro s1037 v ⟨h_s1037, z1036, rfl, hz_z1036⟩
      rw [h_s1037]
      rcases hz_z1036 with ⟨c_z1036, e_z1036⟩ | ⟨c_z1036, e_z1036⟩
      · rw [e_z1036]
        show xe none 119 31 [(0, .ref 0), (1, vi a), (2, vi b), (3, vi d), (4, vi e)] [vi 1] s0 0 0 _
        refine x_if_eq k119_31 (t := 44) rfl ⟨by decide, by decide⟩ (fun c1038 => by exfalso; omega) (fun c1038 => ?_)
        refine x_A k119_34 (fun _ => rfl) ?_
        refine x_A k119_36 (fun _ => rfl) ?_
        refine x_A k119_37 (fun _ => rfl) ?_
        refine x_callS k119_38 (y := 121) (n := 3) (w0 := 0) (w1 := 3) (as := [vi e, vi 0, vi 2]) (rest := []) (by decide +kernel) rfl rfl rfl rfl (xe_mono (C_X10_isWithin s0 hG0 e (by first | exact x_rb b_e rfl rfl | exact ⟨by omega, by omega⟩) 0 ⟨by decide, by decide⟩ 2 ⟨by decide, by decide⟩) ?_)
        rintro s1040 v ⟨h_s1040, z1039, rfl, hz_z1039⟩
        rw [h_s1040]
        rcases hz_z1039 with ⟨c_z1039, e_z1039⟩ | ⟨c_z1039, e_z1039⟩
        · rw [e_z1039]
          show xe none 119 41 [(0, .ref 0), (1, vi a), (2, vi b), (3, vi d), (4, vi e)] [vi 1] s0 0 0 _
          refine x_if_ne k119_41 (t := 48) rfl ⟨by decide, by decide⟩ (fun c1041 => ?_) (fun c1041 => by exfalso; omega)
          refine x_A k119_48 (fun _ => rfl) ?_
          refine x_getR k119_49 (f := 9) rfl (q := 0) (n := 12) (kd := 3) ⟨by decide, rfl⟩ (q2 := 243) (by decide) rfl ?_
          refine x_A k119_52 (fun _ => rfl) ?_
          refine x_callV k119_53 (y := 76) (n := 1) (w0 := 0) (w1 := 1) (as := [vi d]) (rest := []) (by decide +kernel) (q := 243) (nq := 13) (kq := 13) ⟨by decide, rfl⟩ rfl rfl rfl rfl (xe_mono (E_X8_lookIn_243 s0 hG0 (hJ0.fl f0 (by decide)) d (by first | exact x_rb b_d rfl rfl | exact ⟨by omega, by omega⟩) (pR.fl f0 (by decide)) i0_VCj i0_VCl) ?_)
          rintro s1043 v ⟨hG_s1043, t_s1043, rfl, xp_z1042⟩
          have f_s1043 : FL [3329, 3334, 3335, 3336, 3392, 3456, 3520, 3584, 3276, 3648, 3712, 3776, 3840, 3904, 3968, 3277, 4032] s0 s1043 := f0.tr t_s1043 (by decide)
          have q1044 : s1043 46 3 = z1027 := (t_s1043 46 3 (show 452 ∉ [3329, 3334, 3335, 3336, 3392, 3456, 3520, 3584, 3276, 3648, 3712, 3776, 3840, 3904, 3968, 3277, 4032] from by decide)).trans e_z1027.symm
          have q1045 : s1043 231 3 = z1031 := (t_s1043 231 3 (show 2884 ∉ [3329, 3334, 3335, 3336, 3392, 3456, 3520, 3584, 3276, 3648, 3712, 3776, 3840, 3904, 3968, 3277, 4032] from by decide)).trans e_z1031.symm
          have q1046 : s1043 0 10 = z1035 := (t_s1043 0 10 (show 11 ∉ [3329, 3334, 3335, 3336, 3392, 3456, 3520, 3584, 3276, 3648, 3712, 3776, 3840, 3904, 3968, 3277, 4032] from by decide)).trans e_z1035.symm
          obtain ⟨z1047, e_z1047⟩ : ∃ z, z = s1043 243 11 := ⟨_, rfl⟩
          have g_z1047 : (0 : Int) ≤ s1043 243 11 ∧ s1043 243 11 ≤ 1 := hG_s1043 243 11
          obtain ⟨z1048, e_z1048⟩ : ∃ z, z = s1043 243 12 := ⟨_, rfl⟩
          have g_z1048 : (-1) ≤ s1043 243 12 ∧ s1043 243 12 ≤ 9 := hG_s1043 243 12
          show xe none 119 56 [(0, .ref 0), (1, vi a), (2, vi b), (3, vi d), (4, vi e)] [] s1043 0 0 _
          have VCj_k : VCj s1043 := VCj.judge hG0 t_s1043 (by decide) xp_z1042.1
          have VCl_k : VCl s1043 := VCl.look hG0 t_s1043 (by decide) xp_z1042.2.1 xp_z1042.2.2.1 xp_z1042.2.2.2
          refine x_A k119_56 (fun _ => rfl) ?_
          refine x_istore k119_57 (ls' := [(5, vi 0), (0, .ref 0), (1, vi a), (2, vi b), (3, vi d), (4, vi e)]) (by decide) rfl ?_
          refine x_A k119_59 (fun _ => rfl) ?_
          refine x_istore k119_60 (ls' := [(6, vi (-1)), (5, vi 0), (0, .ref 0), (1, vi a), (2, vi b), (3, vi d), (4, vi e)]) (by decide) rfl ?_
          refine x_A k119_62 (fun _ => rfl) ?_
          refine x_getR k119_63 (f := 8) rfl (q := 0) (n := 12) (kd := 3) ⟨by decide, rfl⟩ (q2 := 231) (by decide) rfl ?_
          refine x_getR k119_66 (f := 0) rfl (q := 231) (n := 4) (kd := 12) ⟨by decide, rfl⟩ (q2 := 232) (by decide) rfl ?_
          refine x_A k119_69 (fun _ => rfl) ?_
          refine x_iald k119_70 (q := 232) (n := 4) ⟨by decide, rfl⟩ (by decide) (by first | exact x_rbl b_b rfl rfl | exact ⟨by omega, by omega⟩) ?_
          refine x_top (fun z1049 e_z1049 => ?_)
          have g_z1049 : (0 : Int) ≤ s1043 232 b.toNat ∧ s1043 232 b.toNat ≤ 5 := hG_s1043 232 b.toNat
          refine x_A k119_71 (fun _ => rfl) ?_
          refine x_isub k119_72 ?_
          refine x_top (fun z1050 e_z1050 => ?_)
          refine x_istore k119_73 (ls' := [(7, vi z1050), (6, vi (-1)), (5, vi 0), (0, .ref 0), (1, vi a), (2, vi b), (3, vi d), (4, vi e)]) (by decide) rfl ?_
          refine x_ls (l := [(0, .ref 0), (1, vi a), (2, vi b), (3, vi d), (4, vi e), (5, vi 0), (6, vi (-1)), (7, vi z1050)]) (show ([0, 1, 2, 3, 4, 5, 6, 7] : List Nat).Nodup from by decide) ⟨rfl, rfl, rfl, rfl, rfl, rfl, rfl, rfl, trivial⟩ ?_
          exact L_V_X10_of_0_75 s0 hJ0 a b_a b b_b d b_d e b_e pR  (((z1050 - (-1)) + 1 : Int)).toNat s1043 a b d e 0 (-1) z1050 hG_s1043 f_s1043 (by first | exact x_rb b_a rfl rfl | exact ⟨by omega, by omega⟩) (by first | exact x_rb b_b rfl rfl | exact ⟨by omega, by omega⟩) (by first | exact x_rb b_d rfl rfl | exact ⟨by omega, by omega⟩) (by first | exact x_rb b_e rfl rfl | exact ⟨by omega, by omega⟩) ⟨by decide, by decide⟩ ⟨by decide, by decide⟩ (by first | exact x_rbe e_z1050 g_z1050 rfl rfl | exact x_rb g_z1050 rfl rfl | exact ⟨by omega, by omega⟩) VCj_k VCl_k  (by omega)
        · rw [e_z1039]
          show xe none 119 41 [(0, .ref 0), (1, vi a), (2, vi b), (3, vi d), (4, vi e)] [vi 0] s0 0 0 _
          refine x_if_ne k119_41 (t := 48) rfl ⟨by decide, by decide⟩ (fun c1051 => by exfalso; omega) (fun c1051 => ?_)
          refine x_sipush k119_44 (by decide +kernel) ?_
          exact x_iret k119_47 rfl ⟨hG0, f0, (-1002), rfl, ⟨by decide, by decide⟩, i0_VCj, i0_VCl⟩
      · rw [e_z1036]
        show xe none 119 31 [(0, .ref 0), (1, vi a), (2, vi b), (3, vi d), (4, vi e)] [vi 0] s0 0 0 _
        refine x_if_eq k119_31 (t := 44) rfl ⟨by decide, by decide⟩ (fun c1052 => ?_) (fun c1052 => by exfalso; omega)
        refine x_sipush k119_44 (by decide +kernel) ?_
        exact x_iret k119_47 rfl ⟨hG0, f0, (-1002), rfl, ⟨by decide, by decide⟩, i0_VCj, i0_VCl⟩
    · rw [e_z1032]
      show xe none 119 19 [(0, .ref 0), (1, vi a), (2, vi b), (3, vi d), (4, vi e)] [vi 0] s0 0 0 _
      refine x_if_ne k119_19 (t := 26) rfl ⟨by decide, by decide⟩ (fun c1053 => by exfalso; omega) (fun c1053 => ?_)
      refine x_sipush k119_22 (by decide +kernel) ?_
      exact x_iret k119_25 rfl ⟨hG0, f0, (-1001), rfl, ⟨by decide, by decide⟩, i0_VCj, i0_VCl⟩
  · rw [e_z1028]
    show xe none 119 8 [(0, .ref 0), (1, vi a), (2, vi b), (3, vi d), (4, vi e)] [vi 0] s0 0 0 _
    refine x_if_eq k119_8 (t := 22) rfl ⟨by decide, by decide⟩ (fun c1054 => ?_) (fun c1054 => by exfalso; omega)
    refine x_sipush k119_22 (by decide +kernel) ?_
    exact x_iret k119_25 rfl ⟨hG0, f0, (-1001), rfl, ⟨by decide, by decide⟩, i0_VCj, i0_VCl⟩
