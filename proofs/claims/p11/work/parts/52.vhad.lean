set_option maxHeartbeats 8000000 in
theorem L_V_X10_likely_0_53 (s0 : xS) (hJ0 : J s0) (a : Int) (b_a : (-2147483648) ≤ a ∧ a ≤ 2147483647) (b : Int) (b_b : (-2147483648) ≤ b ∧ b ≤ 2147483647) (d : Int) (b_d : (-2147483648) ≤ d ∧ d ≤ 2147483647) (pR : R1 s0)  : ∀ (n : Nat) (s : xS) (x1 : Int) (x2 : Int) (x3 : Int) (x4 : Int) (x6 : Int) (x7 : Int) (hG : GI s) (f : FL [3329, 3334, 3335, 3336, 3392, 3456, 3520, 3584, 3276, 3648, 3712, 3776, 3840, 3904, 3968, 3277, 4032] s0 s) (b_x1 : 0 ≤ x1 ∧ x1 ≤ 39) (b_x2 : 0 ≤ x2 ∧ x2 ≤ 9) (b_x3 : (-2147483648) ≤ x3 ∧ x3 ≤ 2147483647) (b_x4 : in64 x4) (b_x6 : (-2147483648) ≤ x6 ∧ x6 ≤ 2147483647) (b_x7 : 0 ≤ x7 ∧ x7 ≤ 127) (i_VCj : VCj s)  (hm : (x7 - 0) < (n : Int)), xe none 115 53 [(0, .ref 0), (1, vi x1), (2, vi x2), (3, vi x3), (4, vj x4), (6, vi x6), (7, vi x7)] [] s 0 0 (fun s' v => GI s' ∧ FL [3329, 3334, 3335, 3336, 3392, 3456, 3520, 3584, 3276, 3648, 3712, 3776, 3840, 3904, 3968, 3277, 4032] s0 s' ∧ ∃ z, v = some (vi z) ∧ ((-2147483648) ≤ z ∧ z ≤ 2147483647) ∧ VCj s') := by
  intro n
  induction n with
  | zero => intro s x1 x2 x3 x4 x6 x7 hG f b_x1 b_x2 b_x3 b_x4 b_x6 b_x7 i_VCj  hm; exfalso; omega
  | succ n ih =>
    intro s x1 x2 x3 x4 x6 x7 hG f b_x1 b_x2 b_x3 b_x4 b_x6 b_x7 i_VCj  hm
    refine x_A k115_53 (fun _ => rfl) ?_
    refine x_if_le k115_55 (t := 134) rfl (by first | exact x_rb b_x7 rfl rfl | exact ⟨by omega, by omega⟩) (fun c856 => ?_) (fun c856 => ?_)
    · skip
      refine x_A k115_134 (fun _ => rfl) ?_
      refine x_A k115_135 (fun _ => rfl) ?_
      refine x_ic_ne k115_136 (t := 144) rfl (by first | exact x_rb b_x3 rfl rfl | exact ⟨by omega, by omega⟩) ⟨by decide, by decide⟩ (fun c857 => ?_) (fun c857 => ?_)
      · skip
        refine x_A k115_144 (fun _ => rfl) ?_
        exact x_iret k115_145 rfl ⟨hG, f, (-1), rfl, ⟨by decide, by decide⟩, i_VCj⟩
      · skip
        refine x_A k115_139 (fun _ => rfl) ?_
        refine x_goto k115_141 (t := 145) rfl ?_
        exact x_iret k115_145 rfl ⟨hG, f, x6, rfl, (by first | exact x_rb b_x6 rfl rfl | exact ⟨by omega, by omega⟩), i_VCj⟩
    · skip
      refine x_A k115_58 (fun _ => rfl) ?_
      refine x_istore k115_59 (ls' := [(8, vi 0), (0, .ref 0), (1, vi x1), (2, vi x2), (3, vi x3), (4, vj x4), (6, vi x6), (7, vi x7)]) (by decide) rfl ?_
      refine x_ls (l := [(0, .ref 0), (1, vi x1), (2, vi x2), (3, vi x3), (4, vj x4), (6, vi x6), (7, vi x7), (8, vi 0)]) (show ([0, 1, 2, 3, 4, 6, 7, 8] : List Nat).Nodup from by decide) ⟨rfl, rfl, rfl, rfl, rfl, rfl, rfl, rfl, trivial⟩ ?_
      exact L_V_X10_likely_0_61 s0 hJ0 a b_a b b_b d b_d pR n (fun s x1 x2 x3 x4 x6 x7 hG f b_x1 b_x2 b_x3 b_x4 b_x6 b_x7 i_VCj hm => ih s x1 x2 x3 x4 x6 x7 hG f b_x1 b_x2 b_x3 b_x4 b_x6 b_x7 i_VCj  hm) (((40 - 0) + 1 : Int)).toNat s x1 x2 x3 x4 x6 x7 0 hG f (by first | exact x_rb b_x1 rfl rfl | exact ⟨by omega, by omega⟩) (by first | exact x_rb b_x2 rfl rfl | exact ⟨by omega, by omega⟩) (by first | exact x_rb b_x3 rfl rfl | exact ⟨by omega, by omega⟩) b_x4 (by first | exact x_rb b_x6 rfl rfl | exact ⟨by omega, by omega⟩) (by first | exact x_rb b_x7 rfl rfl | exact ⟨by omega, by omega⟩) ⟨by decide, by decide⟩ i_VCj (by omega) (by omega)
set_option maxHeartbeats 8000000 in
theorem V_X10_likely_0 (s0 : xS) (hG0 : GI s0) (hJ0 : J s0) (a : Int) (b_a : (-2147483648) ≤ a ∧ a ≤ 2147483647) (b : Int) (b_b : (-2147483648) ≤ b ∧ b ≤ 2147483647) (d : Int) (b_d : (-2147483648) ≤ d ∧ d ≤ 2147483647) (pR : R1 s0) (i0_VCj : VCj s0) : xe none 115 0 (lv_args 0 [.ref 0, vi a, vi b, vi d]) [] s0 0 0 (fun s' v => GI s' ∧ FL [3329, 3334, 3335, 3336, 3392, 3456, 3520, 3584, 3276, 3648, 3712, 3776, 3840, 3904, 3968, 3277, 4032] s0 s' ∧ ∃ z, v = some (vi z) ∧ ((-2147483648) ≤ z ∧ z ≤ 2147483647) ∧ VCj s') := by
  have f0 : FL [3329, 3334, 3335, 3336, 3392, 3456, 3520, 3584, 3276, 3648, 3712, 3776, 3840, 3904, 3968, 3277, 4032] s0 s0 := FL.rf
  show xe none 115 0 [(0, .ref 0), (1, vi a), (2, vi b), (3, vi d)] [] s0 0 0 _
  refine x_A k115_0 (fun _ => rfl) ?_
  refine x_getR k115_1 (f := 0) rfl (q := 0) (n := 12) (kd := 3) ⟨by decide, rfl⟩ (q2 := 1) (by decide) rfl ?_
  refine x_A k115_4 (fun _ => rfl) ?_
  obtain ⟨z858, e_z858⟩ : ∃ z, z = s0 1 4 := ⟨_, rfl⟩
  have g_z858 : (1 : Int) ≤ s0 1 4 ∧ s0 1 4 ≤ 40 := hG0 1 4
  refine x_callV k115_5 (y := 59) (n := 1) (w0 := 0) (w1 := 1) (as := [vi a]) (rest := []) (by decide +kernel) (q := 1) (nq := 5) (kq := 4) ⟨by decide, rfl⟩ rfl rfl rfl rfl (xe_mono (C_X7_has_1 s0 hG0 a (by first | exact x_rb b_a rfl rfl | exact ⟨by omega, by omega⟩)) ?_)
  rintro s860 v ⟨h_s860, z859, rfl, hz_z859⟩
  rw [h_s860]
  rcases hz_z859 with ⟨c_z859, e_z859⟩ | ⟨c_z859, e_z859⟩
  · rw [e_z859]
    show xe none 115 8 [(0, .ref 0), (1, vi a), (2, vi b), (3, vi d)] [vi 1] s0 0 0 _
    refine x_if_ne k115_8 (t := 15) rfl ⟨by decide, by decide⟩ (fun c861 => ?_) (fun c861 => by exfalso; omega)
    refine x_A k115_15 (fun _ => rfl) ?_
    refine x_A k115_16 (fun _ => rfl) ?_
    obtain ⟨z862, e_z862⟩ : ∃ z, z = s0 0 10 := ⟨_, rfl⟩
    have g_z862 : (0 : Int) ≤ s0 0 10 ∧ s0 0 10 ≤ 9 := hG0 0 10
    refine x_callV k115_17 (y := 125) (n := 1) (w0 := 0) (w1 := 1) (as := [vi b]) (rest := []) (by decide +kernel) (q := 0) (nq := 12) (kq := 3) ⟨by decide, rfl⟩ rfl rfl rfl rfl (xe_mono (C_X10_isKnownEdition_0 s0 hG0 b (by first | exact x_rb b_b rfl rfl | exact ⟨by omega, by omega⟩)) ?_)
    rintro s864 v ⟨h_s864, z863, rfl, hz_z863⟩
    rw [h_s864]
    rcases hz_z863 with ⟨c_z863, e_z863⟩ | ⟨c_z863, e_z863⟩
    · rw [e_z863]
      show xe none 115 20 [(0, .ref 0), (1, vi a), (2, vi b), (3, vi d)] [vi 1] s0 0 0 _
      refine x_if_ne k115_20 (t := 27) rfl ⟨by decide, by decide⟩ (fun c865 => ?_) (fun c865 => by exfalso; omega)
      refine x_A k115_27 (fun _ => rfl) ?_
      refine x_getR k115_28 (f := 9) rfl (q := 0) (n := 12) (kd := 3) ⟨by decide, rfl⟩ (q2 := 243) (by decide) rfl ?_
      refine x_A k115_31 (fun _ => rfl) ?_
      refine x_callV k115_32 (y := 76) (n := 1) (w0 := 0) (w1 := 1) (as := [vi b]) (rest := []) (by decide +kernel) (q := 243) (nq := 13) (kq := 13) ⟨by decide, rfl⟩ rfl rfl rfl rfl (xe_mono (V_X8_lookIn_243 s0 hG0 (hJ0.fl f0 (by decide)) b (by first | exact x_rb b_b rfl rfl | exact ⟨by omega, by omega⟩) (pR.fl f0 (by decide)) i0_VCj) ?_)
      rintro s867 v ⟨hG_s867, t_s867, rfl, VCj_s867⟩
      have f_s867 : FL [3329, 3334, 3335, 3336, 3392, 3456, 3520, 3584, 3276, 3648, 3712, 3776, 3840, 3904, 3968, 3277, 4032] s0 s867 := f0.tr t_s867 (by decide)
      have q868 : s867 1 4 = z858 := (t_s867 1 4 (show 69 ∉ [3329, 3334, 3335, 3336, 3392, 3456, 3520, 3584, 3276, 3648, 3712, 3776, 3840, 3904, 3968, 3277, 4032] from by decide)).trans e_z858.symm
      have q869 : s867 0 10 = z862 := (t_s867 0 10 (show 11 ∉ [3329, 3334, 3335, 3336, 3392, 3456, 3520, 3584, 3276, 3648, 3712, 3776, 3840, 3904, 3968, 3277, 4032] from by decide)).trans e_z862.symm
      show xe none 115 35 [(0, .ref 0), (1, vi a), (2, vi b), (3, vi d)] [] s867 0 0 _
      refine x_A k115_35 (fun _ => rfl) ?_
      refine x_A k115_36 (fun _ => rfl) ?_
      refine x_A k115_37 (fun _ => rfl) ?_
      refine x_callV k115_38 (y := 132) (n := 2) (w0 := 0) (w1 := 2) (as := [vi a, vi b]) (rest := []) (by decide +kernel) (q := 0) (nq := 12) (kq := 3) ⟨by decide, rfl⟩ rfl rfl rfl rfl (xe_mono (C_X10_goingAlong_0 s867 hG_s867 a (by first | exact x_rb b_a rfl rfl | exact ⟨by omega, by omega⟩) b (by first | exact x_rb b_b rfl rfl | exact ⟨by omega, by omega⟩)) ?_)
      rintro s871 v ⟨-, t_s871, z870, rfl, b_z870⟩
      rw [t_s871.nil]
      show xe none 115 41 [(0, .ref 0), (1, vi a), (2, vi b), (3, vi d)] [vj z870] s867 0 0 _
      refine x_lstore k115_41 (ls' := [(4, vj z870), (0, .ref 0), (1, vi a), (2, vi b), (3, vi d)]) (by decide) rfl ?_
      refine x_A k115_43 (fun _ => rfl) ?_
      refine x_istore k115_44 (ls' := [(6, vi 0), (4, vj z870), (0, .ref 0), (1, vi a), (2, vi b), (3, vi d)]) (by decide) rfl ?_
      refine x_A k115_46 (fun _ => rfl) ?_
      refine x_callS k115_48 (y := 219) (n := 1) (w0 := 0) (w1 := 2) (as := [vj z870]) (rest := []) (by decide +kernel) rfl rfl rfl rfl (xe_mono (C_J13_bitCount_95d88 s867 hG_s867 z870 b_z870) ?_)
      rintro s873 v ⟨-, t_s873, z872, rfl, g_z872⟩
      rw [t_s873.nil]
      show xe none 115 51 [(6, vi 0), (4, vj z870), (0, .ref 0), (1, vi a), (2, vi b), (3, vi d)] [vi z872] s867 0 0 _
      refine x_istore k115_51 (ls' := [(7, vi z872), (6, vi 0), (4, vj z870), (0, .ref 0), (1, vi a), (2, vi b), (3, vi d)]) (by decide) rfl ?_
      refine x_ls (l := [(0, .ref 0), (1, vi a), (2, vi b), (3, vi d), (4, vj z870), (6, vi 0), (7, vi z872)]) (show ([0, 1, 2, 3, 4, 6, 7] : List Nat).Nodup from by decide) ⟨rfl, rfl, rfl, rfl, rfl, rfl, rfl, trivial⟩ ?_
      exact L_V_X10_likely_0_53 s0 hJ0 a b_a b b_b d b_d pR  (((z872 - 0) + 1 : Int)).toNat s867 a b d z870 0 z872 hG_s867 f_s867 (by first | exact x_rb b_a rfl rfl | exact ⟨by omega, by omega⟩) (by first | exact x_rb b_b rfl rfl | exact ⟨by omega, by omega⟩) (by first | exact x_rb b_d rfl rfl | exact ⟨by omega, by omega⟩) b_z870 ⟨by decide, by decide⟩ (by first | exact x_rbe e_z872 g_z872 rfl rfl | exact x_rb g_z872 rfl rfl | exact ⟨by omega, by omega⟩) VCj_s867  (by omega)
    · rw [e_z863]
      show xe none 115 20 [(0, .ref 0), (1, vi a), (2, vi b), (3, vi d)] [vi 0] s0 0 0 _
      refine x_if_ne k115_20 (t := 27) rfl ⟨by decide, by decide⟩ (fun c874 => by exfalso; omega) (fun c874 => ?_)
      refine x_sipush k115_23 (by decide +kernel) ?_
      exact x_iret k115_26 rfl ⟨hG0, f0, (-1002), rfl, ⟨by decide, by decide⟩, i0_VCj⟩
  · rw [e_z859]
    show xe none 115 8 [(0, .ref 0), (1, vi a), (2, vi b), (3, vi d)] [vi 0] s0 0 0 _
    refine x_if_ne k115_8 (t := 15) rfl ⟨by decide, by decide⟩ (fun c875 => by exfalso; omega) (fun c875 => ?_)
    refine x_sipush k115_11 (by decide +kernel) ?_
    exact x_iret k115_14 rfl ⟨hG0, f0, (-1001), rfl, ⟨by decide, by decide⟩, i0_VCj⟩
set_option maxHeartbeats 8000000 in
theorem L_V_X10_lacking_0_40 (s0 : xS) (hJ0 : J s0) (a : Int) (b_a : (-2147483648) ≤ a ∧ a ≤ 2147483647) (b : Int) (b_b : (-2147483648) ≤ b ∧ b ≤ 2147483647) (pR : R1 s0)  : ∀ (n : Nat) (s : xS) (x1 : Int) (x2 : Int) (x3 : Int) (x5 : Int) (hG : GI s) (f : FL [3329, 3334, 3335, 3336, 3392, 3456, 3520, 3584, 3276, 3648, 3712, 3776, 3840, 3904, 3968, 3277, 4032] s0 s) (b_x1 : 0 ≤ x1 ∧ x1 ≤ 39) (b_x2 : 0 ≤ x2 ∧ x2 ≤ 9) (b_x3 : in64 x3) (b_x5 : 0 ≤ x5 ∧ x5 ≤ 120) (i_VCj : VCj s)  (hm : (120 - x5) < (n : Int)), xe none 116 40 [(0, .ref 0), (1, vi x1), (2, vi x2), (3, vj x3), (5, vi x5)] [] s 0 0 (fun s' v => GI s' ∧ FL [3329, 3334, 3335, 3336, 3392, 3456, 3520, 3584, 3276, 3648, 3712, 3776, 3840, 3904, 3968, 3277, 4032] s0 s' ∧ ∃ z, v = some (vj z) ∧ in64 z ∧ VCj s') := by
  intro n
  induction n with
  | zero => intro s x1 x2 x3 x5 hG f b_x1 b_x2 b_x3 b_x5 i_VCj  hm; exfalso; omega
  | succ n ih =>
    intro s x1 x2 x3 x5 hG f b_x1 b_x2 b_x3 b_x5 i_VCj  hm
    refine x_A k116_40 (fun _ => rfl) ?_
    refine x_A k116_42 (fun _ => rfl) ?_
    refine x_getR k116_43 (f := 2) rfl (q := 0) (n := 12) (kd := 3) ⟨by decide, rfl⟩ (q2 := 50) (by decide) rfl ?_
    refine x_getI k116_46 (f := 6) rfl (q := 50) (n := 7) (kd := 6) ⟨by decide, rfl⟩ (by decide) rfl ?_
    refine x_top (fun z547 e_z547 => ?_)
    have g_z547 : (0 : Int) ≤ s 50 6 ∧ s 50 6 ≤ 120 := hG 50 6
    refine x_ic_ge k116_49 (t := 130) rfl (by first | exact x_rb b_x5 rfl rfl | exact ⟨by omega, by omega⟩) (by first | exact x_rbe e_z547 g_z547 rfl rfl | exact x_rb g_z547 rfl rfl | exact ⟨by omega, by omega⟩) (fun c548 => ?_) (fun c548 => ?_)
    · skip
      refine x_A k116_130 (fun _ => rfl) ?_
      refine x_A k116_131 (fun _ => rfl) ?_
      refine x_getR k116_132 (f := 9) rfl (q := 0) (n := 12) (kd := 3) ⟨by decide, rfl⟩ (q2 := 243) (by decide) rfl ?_
      refine x_getR k116_135 (f := 10) rfl (q := 243) (n := 13) (kd := 13) ⟨by decide, rfl⟩ (q2 := 255) (by decide) rfl ?_
      refine x_A k116_138 (fun _ => rfl) ?_
      refine x_lald k116_139 (q := 255) (n := 40) ⟨by decide, rfl⟩ (by decide) (by first | exact x_rbl b_x1 rfl rfl | exact ⟨by omega, by omega⟩) ?_
      refine x_topL (fun z549 e_z549 => ?_)
      have b_z549 : in64 z549 := by rw [e_z549]; exact hG 255 x1.toNat
      refine x_ldc2 k116_140 (z := (-1)) rfl (by decide +kernel) ?_
      refine x_lxor_any k116_143 (fun z550 b_z550 => ?_)
      refine x_land_any k116_144 (fun z551 b_z551 => ?_)
      exact x_lret k116_145 rfl ⟨hG, f, z551, rfl, b_z551, i_VCj⟩
    · skip
      refine x_A k116_52 (fun _ => rfl) ?_
      refine x_getR k116_53 (f := 2) rfl (q := 0) (n := 12) (kd := 3) ⟨by decide, rfl⟩ (q2 := 50) (by decide) rfl ?_
      refine x_getR k116_56 (f := 0) rfl (q := 50) (n := 7) (kd := 6) ⟨by decide, rfl⟩ (q2 := 51) (by decide) rfl ?_
      refine x_A k116_59 (fun _ => rfl) ?_
      refine x_iald k116_61 (q := 51) (n := 120) ⟨by decide, rfl⟩ (by decide) (by first | exact x_rbl b_x5 rfl rfl | exact ⟨by omega, by omega⟩) ?_
      refine x_top (fun z552 e_z552 => ?_)
      have g_z552 : (0 : Int) ≤ s 51 x5.toNat ∧ s 51 x5.toNat ≤ 39 := hG 51 x5.toNat
      refine x_istore k116_62 (ls' := [(6, vi z552), (0, .ref 0), (1, vi x1), (2, vi x2), (3, vj x3), (5, vi x5)]) (by decide) rfl ?_
      refine x_A k116_64 (fun _ => rfl) ?_
      refine x_A k116_66 (fun _ => rfl) ?_
      refine x_ic_eq k116_67 (t := 124) rfl (by first | exact x_rbe e_z552 g_z552 rfl rfl | exact x_rb g_z552 rfl rfl | exact ⟨by omega, by omega⟩) (by first | exact x_rb b_x1 rfl rfl | exact ⟨by omega, by omega⟩) (fun c553 => ?_) (fun c553 => ?_)
      · skip
        refine x_iinc k116_124 (ls' := [(5, vi (x5 + 1)), (6, vi z552), (0, .ref 0), (1, vi x1), (2, vi x2), (3, vj x3)]) rfl (by decide) rfl ?_
        refine x_goto k116_127 (t := 40) rfl ?_
        refine x_ls (l := [(0, .ref 0), (1, vi x1), (2, vi x2), (3, vj x3), (5, vi (x5 + 1))]) (show ([0, 1, 2, 3, 5] : List Nat).Nodup from by decide) ⟨rfl, rfl, rfl, rfl, rfl, trivial⟩ ?_
        exact ih s x1 x2 x3 (x5 + 1) hG f (by first | exact x_rb b_x1 rfl rfl | exact ⟨by omega, by omega⟩) (by first | exact x_rb b_x2 rfl rfl | exact ⟨by omega, by omega⟩) b_x3 ⟨by omega, by omega⟩ i_VCj  (by omega)
      · skip
        refine x_A k116_70 (fun _ => rfl) ?_
        refine x_getR k116_71 (f := 1) rfl (q := 0) (n := 12) (kd := 3) ⟨by decide, rfl⟩ (q2 := 46) (by decide) rfl ?_
        refine x_getR k116_74 (f := 2) rfl (q := 46) (n := 4) (kd := 5) ⟨by decide, rfl⟩ (q2 := 49) (by decide) rfl ?_
        refine x_A k116_77 (fun _ => rfl) ?_
        refine x_iald k116_79 (q := 49) (n := 40) ⟨by decide, rfl⟩ (by decide) (by first | exact x_rbel e_z552 g_z552 rfl rfl | exact x_rbl g_z552 rfl rfl | exact ⟨by omega, by omega⟩) ?_
        refine x_top (fun z554 e_z554 => ?_)
        have g_z554 : (0 : Int) ≤ s 49 z552.toNat ∧ s 49 z552.toNat ≤ 39 := hG 49 z552.toNat
        refine x_A k116_80 (fun _ => rfl) ?_
        refine x_getR k116_81 (f := 1) rfl (q := 0) (n := 12) (kd := 3) ⟨by decide, rfl⟩ (q2 := 46) (by decide) rfl ?_
        refine x_getR k116_84 (f := 2) rfl (q := 46) (n := 4) (kd := 5) ⟨by decide, rfl⟩ (q2 := 49) (by decide) rfl ?_
        refine x_A k116_87 (fun _ => rfl) ?_
        refine x_iald k116_88 (q := 49) (n := 40) ⟨by decide, rfl⟩ (by decide) (by first | exact x_rbl b_x1 rfl rfl | exact ⟨by omega, by omega⟩) ?_
        refine x_top (fun z555 e_z555 => ?_)
        have g_z555 : (0 : Int) ≤ s 49 x1.toNat ∧ s 49 x1.toNat ≤ 39 := hG 49 x1.toNat
        refine x_ic_eq k116_89 (t := 95) rfl (by first | exact x_rbe e_z554 g_z554 rfl rfl | exact x_rb g_z554 rfl rfl | exact ⟨by omega, by omega⟩) (by first | exact x_rbe e_z555 g_z555 rfl rfl | exact x_rb g_z555 rfl rfl | exact ⟨by omega, by omega⟩) (fun c556 => ?_) (fun c556 => ?_)
        · skip
          refine x_A k116_95 (fun _ => rfl) ?_
          refine x_getR k116_96 (f := 9) rfl (q := 0) (n := 12) (kd := 3) ⟨by decide, rfl⟩ (q2 := 243) (by decide) rfl ?_
          refine x_getR k116_99 (f := 8) rfl (q := 243) (n := 13) (kd := 13) ⟨by decide, rfl⟩ (q2 := 253) (by decide) rfl ?_
          refine x_A k116_102 (fun _ => rfl) ?_
          refine x_iald k116_104 (q := 253) (n := 120) ⟨by decide, rfl⟩ (by decide) (by first | exact x_rbl b_x5 rfl rfl | exact ⟨by omega, by omega⟩) ?_
          refine x_top (fun z557 e_z557 => ?_)
          have g_z557 : (-1) ≤ s 253 x5.toNat ∧ s 253 x5.toNat ≤ 39 := hG 253 x5.toNat
          refine x_A k116_105 (fun _ => rfl) ?_
          refine x_ic_eq k116_106 (t := 124) rfl (by first | exact x_rbe e_z557 g_z557 rfl rfl | exact x_rb g_z557 rfl rfl | exact ⟨by omega, by omega⟩) ⟨by decide, by decide⟩ (fun c558 => ?_) (fun c558 => ?_)
          · skip
            refine x_iinc k116_124 (ls' := [(5, vi (x5 + 1)), (6, vi z552), (0, .ref 0), (1, vi x1), (2, vi x2), (3, vj x3)]) rfl (by decide) rfl ?_
            refine x_goto k116_127 (t := 40) rfl ?_
            refine x_ls (l := [(0, .ref 0), (1, vi x1), (2, vi x2), (3, vj x3), (5, vi (x5 + 1))]) (show ([0, 1, 2, 3, 5] : List Nat).Nodup from by decide) ⟨rfl, rfl, rfl, rfl, rfl, trivial⟩ ?_
            exact ih s x1 x2 x3 (x5 + 1) hG f (by first | exact x_rb b_x1 rfl rfl | exact ⟨by omega, by omega⟩) (by first | exact x_rb b_x2 rfl rfl | exact ⟨by omega, by omega⟩) b_x3 ⟨by omega, by omega⟩ i_VCj  (by omega)
          · skip
            refine x_A k116_109 (fun _ => rfl) ?_
            refine x_lconst k116_110 (z := 1) (by decide +kernel) ?_
            refine x_A k116_111 (fun _ => rfl) ?_
            refine x_getR k116_112 (f := 9) rfl (q := 0) (n := 12) (kd := 3) ⟨by decide, rfl⟩ (q2 := 243) (by decide) rfl ?_
            refine x_getR k116_115 (f := 8) rfl (q := 243) (n := 13) (kd := 13) ⟨by decide, rfl⟩ (q2 := 253) (by decide) rfl ?_
            refine x_A k116_118 (fun _ => rfl) ?_
            refine x_iald k116_120 (q := 253) (n := 120) ⟨by decide, rfl⟩ (by decide) (by first | exact x_rbl b_x5 rfl rfl | exact ⟨by omega, by omega⟩) ?_
            rw [e_z557.symm]
            refine x_lshl_any k116_121 (fun z559 b_z559 => ?_)
            refine x_lor_any k116_122 (fun z560 b_z560 => ?_)
            refine x_lstore_n k116_123 (ls' := [(3, vj z560), (6, vi z552), (0, .ref 0), (1, vi x1), (2, vi x2), (5, vi x5)]) (by decide) rfl ?_
            refine x_iinc k116_124 (ls' := [(5, vi (x5 + 1)), (3, vj z560), (6, vi z552), (0, .ref 0), (1, vi x1), (2, vi x2)]) rfl (by decide) rfl ?_
            refine x_goto k116_127 (t := 40) rfl ?_
            refine x_ls (l := [(0, .ref 0), (1, vi x1), (2, vi x2), (3, vj z560), (5, vi (x5 + 1))]) (show ([0, 1, 2, 3, 5] : List Nat).Nodup from by decide) ⟨rfl, rfl, rfl, rfl, rfl, trivial⟩ ?_
            exact ih s x1 x2 z560 (x5 + 1) hG f (by first | exact x_rb b_x1 rfl rfl | exact ⟨by omega, by omega⟩) (by first | exact x_rb b_x2 rfl rfl | exact ⟨by omega, by omega⟩) b_z560 ⟨by omega, by omega⟩ i_VCj  (by omega)
        · skip
          refine x_goto k116_92 (t := 124) rfl ?_
          refine x_iinc k116_124 (ls' := [(5, vi (x5 + 1)), (6, vi z552), (0, .ref 0), (1, vi x1), (2, vi x2), (3, vj x3)]) rfl (by decide) rfl ?_
          refine x_goto k116_127 (t := 40) rfl ?_
          refine x_ls (l := [(0, .ref 0), (1, vi x1), (2, vi x2), (3, vj x3), (5, vi (x5 + 1))]) (show ([0, 1, 2, 3, 5] : List Nat).Nodup from by decide) ⟨rfl, rfl, rfl, rfl, rfl, trivial⟩ ?_
          exact ih s x1 x2 x3 (x5 + 1) hG f (by first | exact x_rb b_x1 rfl rfl | exact ⟨by omega, by omega⟩) (by first | exact x_rb b_x2 rfl rfl | exact ⟨by omega, by omega⟩) b_x3 ⟨by omega, by omega⟩ i_VCj  (by omega)
set_option maxHeartbeats 8000000 in
theorem V_X10_lacking_0 (s0 : xS) (hG0 : GI s0) (hJ0 : J s0) (a : Int) (b_a : (-2147483648) ≤ a ∧ a ≤ 2147483647) (b : Int) (b_b : (-2147483648) ≤ b ∧ b ≤ 2147483647) (pR : R1 s0) (i0_VCj : VCj s0) : xe none 116 0 (lv_args 0 [.ref 0, vi a, vi b]) [] s0 0 0 (fun s' v => GI s' ∧ FL [3329, 3334, 3335, 3336, 3392, 3456, 3520, 3584, 3276, 3648, 3712, 3776, 3840, 3904, 3968, 3277, 4032] s0 s' ∧ ∃ z, v = some (vj z) ∧ in64 z ∧ VCj s') := by
  have f0 : FL [3329, 3334, 3335, 3336, 3392, 3456, 3520, 3584, 3276, 3648, 3712, 3776, 3840, 3904, 3968, 3277, 4032] s0 s0 := FL.rf
  show xe none 116 0 [(0, .ref 0), (1, vi a), (2, vi b)] [] s0 0 0 _
  refine x_A k116_0 (fun _ => rfl) ?_
  refine x_getR k116_1 (f := 1) rfl (q := 0) (n := 12) (kd := 3) ⟨by decide, rfl⟩ (q2 := 46) (by decide) rfl ?_
  refine x_A k116_4 (fun _ => rfl) ?_
  obtain ⟨z561, e_z561⟩ : ∃ z, z = s0 46 3 := ⟨_, rfl⟩
  have g_z561 : (0 : Int) ≤ s0 46 3 ∧ s0 46 3 ≤ 40 := hG0 46 3
  refine x_callV k116_5 (y := 29) (n := 1) (w0 := 0) (w1 := 1) (as := [vi a]) (rest := []) (by decide +kernel) (q := 46) (nq := 4) (kq := 5) ⟨by decide, rfl⟩ rfl rfl rfl rfl (xe_mono (C_X3_has_46 s0 hG0 a (by first | exact x_rb b_a rfl rfl | exact ⟨by omega, by omega⟩)) ?_)
  rintro s563 v ⟨h_s563, z562, rfl, hz_z562⟩
  rw [h_s563]
  rcases hz_z562 with ⟨c_z562, e_z562⟩ | ⟨c_z562, e_z562⟩
  · rw [e_z562]
    show xe none 116 8 [(0, .ref 0), (1, vi a), (2, vi b)] [vi 1] s0 0 0 _
    refine x_if_ne k116_8 (t := 15) rfl ⟨by decide, by decide⟩ (fun c564 => ?_) (fun c564 => by exfalso; omega)
    refine x_A k116_15 (fun _ => rfl) ?_
    refine x_A k116_16 (fun _ => rfl) ?_
    obtain ⟨z565, e_z565⟩ : ∃ z, z = s0 0 10 := ⟨_, rfl⟩
    have g_z565 : (0 : Int) ≤ s0 0 10 ∧ s0 0 10 ≤ 9 := hG0 0 10
    refine x_callV k116_17 (y := 125) (n := 1) (w0 := 0) (w1 := 1) (as := [vi b]) (rest := []) (by decide +kernel) (q := 0) (nq := 12) (kq := 3) ⟨by decide, rfl⟩ rfl rfl rfl rfl (xe_mono (C_X10_isKnownEdition_0 s0 hG0 b (by first | exact x_rb b_b rfl rfl | exact ⟨by omega, by omega⟩)) ?_)
    rintro s567 v ⟨h_s567, z566, rfl, hz_z566⟩
    rw [h_s567]
    rcases hz_z566 with ⟨c_z566, e_z566⟩ | ⟨c_z566, e_z566⟩
    · rw [e_z566]
      show xe none 116 20 [(0, .ref 0), (1, vi a), (2, vi b)] [vi 1] s0 0 0 _
      refine x_if_ne k116_20 (t := 27) rfl ⟨by decide, by decide⟩ (fun c568 => ?_) (fun c568 => by exfalso; omega)
      refine x_A k116_27 (fun _ => rfl) ?_
      refine x_getR k116_28 (f := 9) rfl (q := 0) (n := 12) (kd := 3) ⟨by decide, rfl⟩ (q2 := 243) (by decide) rfl ?_
      refine x_A k116_31 (fun _ => rfl) ?_
      refine x_callV k116_32 (y := 76) (n := 1) (w0 := 0) (w1 := 1) (as := [vi b]) (rest := []) (by decide +kernel) (q := 243) (nq := 13) (kq := 13) ⟨by decide, rfl⟩ rfl rfl rfl rfl (xe_mono (V_X8_lookIn_243 s0 hG0 (hJ0.fl f0 (by decide)) b (by first | exact x_rb b_b rfl rfl | exact ⟨by omega, by omega⟩) (pR.fl f0 (by decide)) i0_VCj) ?_)
      rintro s570 v ⟨hG_s570, t_s570, rfl, VCj_s570⟩
      have f_s570 : FL [3329, 3334, 3335, 3336, 3392, 3456, 3520, 3584, 3276, 3648, 3712, 3776, 3840, 3904, 3968, 3277, 4032] s0 s570 := f0.tr t_s570 (by decide)
      have q571 : s570 46 3 = z561 := (t_s570 46 3 (show 452 ∉ [3329, 3334, 3335, 3336, 3392, 3456, 3520, 3584, 3276, 3648, 3712, 3776, 3840, 3904, 3968, 3277, 4032] from by decide)).trans e_z561.symm
      have q572 : s570 0 10 = z565 := (t_s570 0 10 (show 11 ∉ [3329, 3334, 3335, 3336, 3392, 3456, 3520, 3584, 3276, 3648, 3712, 3776, 3840, 3904, 3968, 3277, 4032] from by decide)).trans e_z565.symm
      show xe none 116 35 [(0, .ref 0), (1, vi a), (2, vi b)] [] s570 0 0 _
      refine x_lconst k116_35 (z := 0) (by decide +kernel) ?_
      refine x_lstore_n k116_36 (ls' := [(3, vj 0), (0, .ref 0), (1, vi a), (2, vi b)]) (by decide) rfl ?_
      refine x_A k116_37 (fun _ => rfl) ?_
      refine x_istore k116_38 (ls' := [(5, vi 0), (3, vj 0), (0, .ref 0), (1, vi a), (2, vi b)]) (by decide) rfl ?_
      refine x_ls (l := [(0, .ref 0), (1, vi a), (2, vi b), (3, vj 0), (5, vi 0)]) (show ([0, 1, 2, 3, 5] : List Nat).Nodup from by decide) ⟨rfl, rfl, rfl, rfl, rfl, trivial⟩ ?_
      exact L_V_X10_lacking_0_40 s0 hJ0 a b_a b b_b pR  (((120 - 0) + 1 : Int)).toNat s570 a b 0 0 hG_s570 f_s570 (by first | exact x_rb b_a rfl rfl | exact ⟨by omega, by omega⟩) (by first | exact x_rb b_b rfl rfl | exact ⟨by omega, by omega⟩) ⟨by omega, by omega⟩ ⟨by decide, by decide⟩ VCj_s570  (by omega)
    · rw [e_z566]
      show xe none 116 20 [(0, .ref 0), (1, vi a), (2, vi b)] [vi 0] s0 0 0 _
      refine x_if_ne k116_20 (t := 27) rfl ⟨by decide, by decide⟩ (fun c573 => by exfalso; omega) (fun c573 => ?_)
      refine x_ldc2 k116_23 (z := (-1002)) rfl (by decide +kernel) ?_
      exact x_lret k116_26 rfl ⟨hG0, f0, (-1002), rfl, ⟨by omega, by omega⟩, i0_VCj⟩
  · rw [e_z562]
    show xe none 116 8 [(0, .ref 0), (1, vi a), (2, vi b)] [vi 0] s0 0 0 _
    refine x_if_ne k116_8 (t := 15) rfl ⟨by decide, by decide⟩ (fun c574 => by exfalso; omega) (fun c574 => ?_)
    refine x_ldc2 k116_11 (z := (-1001)) rfl (by decide +kernel) ?_
    exact x_lret k116_14 rfl ⟨hG0, f0, (-1001), rfl, ⟨by omega, by omega⟩, i0_VCj⟩
set_option maxHeartbeats 8000000 in
theorem L_V_X10_of_0_75 (s0 : xS) (hJ0 : J s0) (a : Int) (b_a : (-2147483648) ≤ a ∧ a ≤ 2147483647) (b : Int) (b_b : (-2147483648) ≤ b ∧ b ≤ 2147483647) (d : Int) (b_d : (-2147483648) ≤ d ∧ d ≤ 2147483647) (e : Int) (b_e : (-2147483648) ≤ e ∧ e ≤ 2147483647) (pR : R1 s0)  : ∀ (n : Nat) (s : xS) (x1 : Int) (x2 : Int) (x3 : Int) (x4 : Int) (x5 : Int) (x6 : Int) (x7 : Int) (hG : GI s) (f : FL [3329, 3334, 3335, 3336, 3392, 3456, 3520, 3584, 3276, 3648, 3712, 3776, 3840, 3904, 3968, 3277, 4032] s0 s) (b_x1 : 0 ≤ x1 ∧ x1 ≤ 39) (b_x2 : 0 ≤ x2 ∧ x2 ≤ 3) (b_x3 : 0 ≤ x3 ∧ x3 ≤ 9) (b_x4 : 0 ≤ x4 ∧ x4 ≤ 2) (b_x5 : (-2147483648) ≤ x5 ∧ x5 ≤ 2147483647) (b_x6 : (-1) ≤ x6 ∧ x6 ≤ 4) (b_x7 : (-1) ≤ x7 ∧ x7 ≤ 4) (i_VCj : VCj s)  (hm : (x7 - (-1)) < (n : Int)), xe none 119 75 [(0, .ref 0), (1, vi x1), (2, vi x2), (3, vi x3), (4, vi x4), (5, vi x5), (6, vi x6), (7, vi x7)] [] s 0 0 (fun s' v => GI s' ∧ FL [3329, 3334, 3335, 3336, 3392, 3456, 3520, 3584, 3276, 3648, 3712, 3776, 3840, 3904, 3968, 3277, 4032] s0 s' ∧ ∃ z, v = some (vi z) ∧ ((-2147483648) ≤ z ∧ z ≤ 2147483647) ∧ VCj s') := by
  intro n
  induction n with
  | zero => intro s x1 x2 x3 x4 x5 x6 x7 hG f b_x1 b_x2 b_x3 b_x4 b_x5 b_x6 b_x7 i_VCj  hm; exfalso; omega
  | succ n ih =>
    intro s x1 x2 x3 x4 x5 x6 x7 hG f b_x1 b_x2 b_x3 b_x4 b_x5 b_x6 b_x7 i_VCj  hm
    refine x_A k119_75 (fun _ => rfl) ?_
    refine x_if_lt k119_77 (t := 127) rfl (by first | exact x_rb b_x7 rfl rfl | exact ⟨by omega, by omega⟩) (fun c964 => ?_) (fun c964 => ?_)
    · skip
      refine x_A k119_127 (fun _ => rfl) ?_
      have c965 : x4 = 0 ∨ x4 = 1 ∨ x4 = 2 := by omega
      rcases c965 with c965 | c965 | c965
      · rw [c965]
        refine x_B k119_129 rfl (fun _ => rfl) (fun _ => rfl) (fun _ _ => rfl) ?_
        show xe none 119 156 [(0, .ref 0), (1, vi x1), (2, vi x2), (3, vi x3), (4, vi 0), (5, vi x5), (6, vi x6), (7, vi x7)] [] s 0 0 _
        refine x_A k119_156 (fun _ => rfl) ?_
        exact x_iret k119_158 rfl ⟨hG, f, x5, rfl, (by first | exact x_rb b_x5 rfl rfl | exact ⟨by omega, by omega⟩), i_VCj⟩
      · rw [c965]
        refine x_B k119_129 rfl (fun _ => rfl) (fun _ => rfl) (fun _ _ => rfl) ?_
        show xe none 119 159 [(0, .ref 0), (1, vi x1), (2, vi x2), (3, vi x3), (4, vi 1), (5, vi x5), (6, vi x6), (7, vi x7)] [] s 0 0 _
        refine x_A k119_159 (fun _ => rfl) ?_
        exact x_iret k119_161 rfl ⟨hG, f, x6, rfl, (by first | exact x_rb b_x6 rfl rfl | exact ⟨by omega, by omega⟩), i_VCj⟩
      · rw [c965]
        refine x_B k119_129 rfl (fun _ => rfl) (fun _ => rfl) (fun _ _ => rfl) ?_
        show xe none 119 162 [(0, .ref 0), (1, vi x1), (2, vi x2), (3, vi x3), (4, vi 2), (5, vi x5), (6, vi x6), (7, vi x7)] [] s 0 0 _
        refine x_A k119_162 (fun _ => rfl) ?_
        refine x_A k119_164 (fun _ => rfl) ?_
        refine x_ic_ne k119_165 (t := 172) rfl (by first | exact x_rb b_x5 rfl rfl | exact ⟨by omega, by omega⟩) ⟨by decide, by decide⟩ (fun c966 => ?_) (fun c966 => ?_)
        · skip
          refine x_A k119_172 (fun _ => rfl) ?_
          refine x_callS k119_173 (y := 126) (n := 1) (w0 := 0) (w1 := 1) (as := [vi 0]) (rest := []) (by decide +kernel) rfl rfl rfl rfl (xe_mono (C_X10_oneIf s hG 0 ⟨by decide, by decide⟩) ?_)
          rintro s968 v ⟨-, t_s968, z967, rfl, g_z967⟩
          rw [t_s968.nil]
          show xe none 119 176 [(0, .ref 0), (1, vi x1), (2, vi x2), (3, vi x3), (4, vi 2), (5, vi x5), (6, vi x6), (7, vi x7)] [vi z967] s 0 0 _
          exact x_iret k119_176 rfl ⟨hG, f, z967, rfl, (by first | exact x_rbe e_z967 g_z967 rfl rfl | exact x_rb g_z967 rfl rfl | exact ⟨by omega, by omega⟩), i_VCj⟩
        · skip
          refine x_A k119_168 (fun _ => rfl) ?_
          refine x_goto k119_169 (t := 173) rfl ?_
          refine x_callS k119_173 (y := 126) (n := 1) (w0 := 0) (w1 := 1) (as := [vi 1]) (rest := []) (by decide +kernel) rfl rfl rfl rfl (xe_mono (C_X10_oneIf s hG 1 ⟨by decide, by decide⟩) ?_)
          rintro s970 v ⟨-, t_s970, z969, rfl, g_z969⟩
          rw [t_s970.nil]
          show xe none 119 176 [(0, .ref 0), (1, vi x1), (2, vi x2), (3, vi x3), (4, vi 2), (5, vi x5), (6, vi x6), (7, vi x7)] [vi z969] s 0 0 _
          exact x_iret k119_176 rfl ⟨hG, f, z969, rfl, (by first | exact x_rbe e_z969 g_z969 rfl rfl | exact x_rb g_z969 rfl rfl | exact ⟨by omega, by omega⟩), i_VCj⟩
    · skip
      refine x_A k119_80 (fun _ => rfl) ?_
      refine x_getR k119_81 (f := 8) rfl (q := 0) (n := 12) (kd := 3) ⟨by decide, rfl⟩ (q2 := 231) (by decide) rfl ?_
      refine x_getR k119_84 (f := 2) rfl (q := 231) (n := 4) (kd := 12) ⟨by decide, rfl⟩ (q2 := 238) (by decide) rfl ?_
      refine x_A k119_87 (fun _ => rfl) ?_
      refine x_aald k119_88 (q := 238) (t := 24) (n := 4) ⟨by decide, rfl⟩ (by decide) (by decide) ⟨by omega, by omega⟩ ?_
      refine x_A k119_89 (fun _ => rfl) ?_
      refine x_lald k119_91 (q := (238 + 1 + x2.toNat)) (n := 5) (xg_239 (by omega) (by omega)) (by decide) (by first | exact x_rbl b_x7 rfl rfl | exact ⟨by omega, by omega⟩) ?_
      refine x_topL (fun z971 e_z971 => ?_)
      have r_z971 := hG (238 + 1 + x2.toNat) x7.toNat
      rw [(gr_239 x7.toNat (show 239 ≤ (238 + 1 + x2.toNat) by omega) (by omega)).1, (gr_239 x7.toNat (show 239 ≤ (238 + 1 + x2.toNat) by omega) (by omega)).2.1, ← e_z971] at r_z971
      have b_z971 : in64 z971 := r_z971
      refine x_A k119_92 (fun _ => rfl) ?_
      refine x_getR k119_93 (f := 9) rfl (q := 0) (n := 12) (kd := 3) ⟨by decide, rfl⟩ (q2 := 243) (by decide) rfl ?_
      refine x_getR k119_96 (f := 10) rfl (q := 243) (n := 13) (kd := 13) ⟨by decide, rfl⟩ (q2 := 255) (by decide) rfl ?_
      refine x_A k119_99 (fun _ => rfl) ?_
      refine x_lald k119_100 (q := 255) (n := 40) ⟨by decide, rfl⟩ (by decide) (by first | exact x_rbl b_x1 rfl rfl | exact ⟨by omega, by omega⟩) ?_
      refine x_topL (fun z972 e_z972 => ?_)
      have b_z972 : in64 z972 := by rw [e_z972]; exact hG 255 x1.toNat
      refine x_ldc2 k119_101 (z := (-1)) rfl (by decide +kernel) ?_
      refine x_lxor_any k119_104 (fun z973 b_z973 => ?_)
      refine x_land_any k119_105 (fun z974 b_z974 => ?_)
      refine x_lconst k119_106 (z := 0) (by decide +kernel) ?_
      refine x_lc_eq k119_107 k119_108 (t := 114) rfl b_z974 ⟨by omega, by omega⟩ (fun c975 => ?_) (fun c975 => ?_)
      · skip
        refine x_iinc k119_114 (ls' := [(5, vi (x5 + 1)), (0, .ref 0), (1, vi x1), (2, vi x2), (3, vi x3), (4, vi x4), (6, vi x6), (7, vi x7)]) rfl (by decide) rfl ?_
        obtain ⟨z976, g_z976, e_z976⟩ := x_wrap (x5 + 1)
        unfold in32 at g_z976
        rw [e_z976]
        refine x_A k119_117 (fun _ => rfl) ?_
        refine x_istore k119_119 (ls' := [(6, vi x7), (5, vi z976), (0, .ref 0), (1, vi x1), (2, vi x2), (3, vi x3), (4, vi x4), (7, vi x7)]) (by decide) rfl ?_
        refine x_iinc k119_121 (ls' := [(7, vi (x7 + (-1))), (6, vi x7), (5, vi z976), (0, .ref 0), (1, vi x1), (2, vi x2), (3, vi x3), (4, vi x4)]) rfl (by decide) rfl ?_
        refine x_goto k119_124 (t := 75) rfl ?_
        refine x_ls (l := [(0, .ref 0), (1, vi x1), (2, vi x2), (3, vi x3), (4, vi x4), (5, vi z976), (6, vi x7), (7, vi (x7 + (-1)))]) (show ([0, 1, 2, 3, 4, 5, 6, 7] : List Nat).Nodup from by decide) ⟨rfl, rfl, rfl, rfl, rfl, rfl, rfl, rfl, trivial⟩ ?_
        exact ih s x1 x2 x3 x4 z976 x7 (x7 + (-1)) hG f (by first | exact x_rb b_x1 rfl rfl | exact ⟨by omega, by omega⟩) (by first | exact x_rb b_x2 rfl rfl | exact ⟨by omega, by omega⟩) (by first | exact x_rb b_x3 rfl rfl | exact ⟨by omega, by omega⟩) (by first | exact x_rb b_x4 rfl rfl | exact ⟨by omega, by omega⟩) (by first | exact x_rbe e_z976 g_z976 rfl rfl | exact x_rb g_z976 rfl rfl | exact ⟨by omega, by omega⟩) (by first | exact x_rb b_x7 rfl rfl | exact ⟨by omega, by omega⟩) ⟨by omega, by omega⟩ i_VCj  (by omega)
      · skip
        refine x_goto k119_111 (t := 121) rfl ?_
        refine x_iinc k119_121 (ls' := [(7, vi (x7 + (-1))), (0, .ref 0), (1, vi x1), (2, vi x2), (3, vi x3), (4, vi x4), (5, vi x5), (6, vi x6)]) rfl (by decide) rfl ?_
        refine x_goto k119_124 (t := 75) rfl ?_
        refine x_ls (l := [(0, .ref 0), (1, vi x1), (2, vi x2), (3, vi x3), (4, vi x4), (5, vi x5), (6, vi x6), (7, vi (x7 + (-1)))]) (show ([0, 1, 2, 3, 4, 5, 6, 7] : List Nat).Nodup from by decide) ⟨rfl, rfl, rfl, rfl, rfl, rfl, rfl, rfl, trivial⟩ ?_
        exact ih s x1 x2 x3 x4 x5 x6 (x7 + (-1)) hG f (by first | exact x_rb b_x1 rfl rfl | exact ⟨by omega, by omega⟩) (by first | exact x_rb b_x2 rfl rfl | exact ⟨by omega, by omega⟩) (by first | exact x_rb b_x3 rfl rfl | exact ⟨by omega, by omega⟩) (by first | exact x_rb b_x4 rfl rfl | exact ⟨by omega, by omega⟩) (by first | exact x_rb b_x5 rfl rfl | exact ⟨by omega, by omega⟩) (by first | exact x_rb b_x6 rfl rfl | exact ⟨by omega, by omega⟩) ⟨by omega, by omega⟩ i_VCj  (by omega)
set_option maxHeartbeats 8000000 in
theorem V_X10_of_0 (s0 : xS) (hG0 : GI s0) (hJ0 : J s0) (a : Int) (b_a : (-2147483648) ≤ a ∧ a ≤ 2147483647) (b : Int) (b_b : (-2147483648) ≤ b ∧ b ≤ 2147483647) (d : Int) (b_d : (-2147483648) ≤ d ∧ d ≤ 2147483647) (e : Int) (b_e : (-2147483648) ≤ e ∧ e ≤ 2147483647) (pR : R1 s0) (i0_VCj : VCj s0) : xe none 119 0 (lv_args 0 [.ref 0, vi a, vi b, vi d, vi e]) [] s0 0 0 (fun s' v => GI s' ∧ FL [3329, 3334, 3335, 3336, 3392, 3456, 3520, 3584, 3276, 3648, 3712, 3776, 3840, 3904, 3968, 3277, 4032] s0 s' ∧ ∃ z, v = some (vi z) ∧ ((-2147483648) ≤ z ∧ z ≤ 2147483647) ∧ VCj s') := by
  have f0 : FL [3329, 3334, 3335, 3336, 3392, 3456, 3520, 3584, 3276, 3648, 3712, 3776, 3840, 3904, 3968, 3277, 4032] s0 s0 := FL.rf
  show xe none 119 0 [(0, .ref 0), (1, vi a), (2, vi b), (3, vi d), (4, vi e)] [] s0 0 0 _
  refine x_A k119_0 (fun _ => rfl) ?_
  refine x_getR k119_1 (f := 1) rfl (q := 0) (n := 12) (kd := 3) ⟨by decide, rfl⟩ (q2 := 46) (by decide) rfl ?_
  refine x_A k119_4 (fun _ => rfl) ?_
  obtain ⟨z977, e_z977⟩ : ∃ z, z = s0 46 3 := ⟨_, rfl⟩
  have g_z977 : (0 : Int) ≤ s0 46 3 ∧ s0 46 3 ≤ 40 := hG0 46 3
  refine x_callV k119_5 (y := 29) (n := 1) (w0 := 0) (w1 := 1) (as := [vi a]) (rest := []) (by decide +kernel) (q := 46) (nq := 4) (kq := 5) ⟨by decide, rfl⟩ rfl rfl rfl rfl (xe_mono (C_X3_has_46 s0 hG0 a (by first | exact x_rb b_a rfl rfl | exact ⟨by omega, by omega⟩)) ?_)
  rintro s979 v ⟨h_s979, z978, rfl, hz_z978⟩
  rw [h_s979]
  rcases hz_z978 with ⟨c_z978, e_z978⟩ | ⟨c_z978, e_z978⟩
  · rw [e_z978]
    show xe none 119 8 [(0, .ref 0), (1, vi a), (2, vi b), (3, vi d), (4, vi e)] [vi 1] s0 0 0 _
    refine x_if_eq k119_8 (t := 22) rfl ⟨by decide, by decide⟩ (fun c980 => by exfalso; omega) (fun c980 => ?_)
    refine x_A k119_11 (fun _ => rfl) ?_
    refine x_getR k119_12 (f := 8) rfl (q := 0) (n := 12) (kd := 3) ⟨by decide, rfl⟩ (q2 := 231) (by decide) rfl ?_
    refine x_A k119_15 (fun _ => rfl) ?_
    obtain ⟨z981, e_z981⟩ : ∃ z, z = s0 231 3 := ⟨_, rfl⟩
    have g_z981 : (0 : Int) ≤ s0 231 3 ∧ s0 231 3 ≤ 4 := hG0 231 3
    refine x_callV k119_16 (y := 43) (n := 1) (w0 := 0) (w1 := 1) (as := [vi b]) (rest := []) (by decide +kernel) (q := 231) (nq := 4) (kq := 12) ⟨by decide, rfl⟩ rfl rfl rfl rfl (xe_mono (C_X5_has_231 s0 hG0 b (by first | exact x_rb b_b rfl rfl | exact ⟨by omega, by omega⟩)) ?_)
    rintro s983 v ⟨h_s983, z982, rfl, hz_z982⟩
    rw [h_s983]
    rcases hz_z982 with ⟨c_z982, e_z982⟩ | ⟨c_z982, e_z982⟩
    · rw [e_z982]
      show xe none 119 19 [(0, .ref 0), (1, vi a), (2, vi b), (3, vi d), (4, vi e)] [vi 1] s0 0 0 _
      refine x_if_ne k119_19 (t := 26) rfl ⟨by decide, by decide⟩ (fun c984 => ?_) (fun c984 => by exfalso; omega)
      refine x_A k119_26 (fun _ => rfl) ?_
      refine x_A k119_27 (fun _ => rfl) ?_
      obtain ⟨z985, e_z985⟩ : ∃ z, z = s0 0 10 := ⟨_, rfl⟩
      have g_z985 : (0 : Int) ≤ s0 0 10 ∧ s0 0 10 ≤ 9 := hG0 0 10
      refine x_callV k119_28 (y := 125) (n := 1) (w0 := 0) (w1 := 1) (as := [vi d]) (rest := []) (by decide +kernel) (q := 0) (nq := 12) (kq := 3) ⟨by decide, rfl⟩ rfl rfl rfl rfl (xe_mono (C_X10_isKnownEdition_0 s0 hG0 d (by first | exact x_rb b_d rfl rfl | exact ⟨by omega, by omega⟩)) ?_)
      rintro s987 v ⟨h_s987, z986, rfl, hz_z986⟩
      rw [h_s987]
      rcases hz_z986 with ⟨c_z986, e_z986⟩ | ⟨c_z986, e_z986⟩
      · rw [e_z986]
        show xe none 119 31 [(0, .ref 0), (1, vi a), (2, vi b), (3, vi d), (4, vi e)] [vi 1] s0 0 0 _
        refine x_if_eq k119_31 (t := 44) rfl ⟨by decide, by decide⟩ (fun c988 => by exfalso; omega) (fun c988 => ?_)
        refine x_A k119_34 (fun _ => rfl) ?_
        refine x_A k119_36 (fun _ => rfl) ?_
        refine x_A k119_37 (fun _ => rfl) ?_
        refine x_callS k119_38 (y := 121) (n := 3) (w0 := 0) (w1 := 3) (as := [vi e, vi 0, vi 2]) (rest := []) (by decide +kernel) rfl rfl rfl rfl (xe_mono (C_X10_isWithin s0 hG0 e (by first | exact x_rb b_e rfl rfl | exact ⟨by omega, by omega⟩) 0 ⟨by decide, by decide⟩ 2 ⟨by decide, by decide⟩) ?_)
        rintro s990 v ⟨h_s990, z989, rfl, hz_z989⟩
        rw [h_s990]
        rcases hz_z989 with ⟨c_z989, e_z989⟩ | ⟨c_z989, e_z989⟩
        · rw [e_z989]
          show xe none 119 41 [(0, .ref 0), (1, vi a), (2, vi b), (3, vi d), (4, vi e)] [vi 1] s0 0 0 _
          refine x_if_ne k119_41 (t := 48) rfl ⟨by decide, by decide⟩ (fun c991 => ?_) (fun c991 => by exfalso; omega)
          refine x_A k119_48 (fun _ => rfl) ?_
          refine x_getR k119_49 (f := 9) rfl (q := 0) (n := 12) (kd := 3) ⟨by decide, rfl⟩ (q2 := 243) (by decide) rfl ?_
          refine x_A k119_52 (fun _ => rfl) ?_
          refine x_callV k119_53 (y := 76) (n := 1) (w0 := 0) (w1 := 1) (as := [vi d]) (rest := []) (by decide +kernel) (q := 243) (nq := 13) (kq := 13) ⟨by decide, rfl⟩ rfl rfl rfl rfl (xe_mono (V_X8_lookIn_243 s0 hG0 (hJ0.fl f0 (by decide)) d (by first | exact x_rb b_d rfl rfl | exact ⟨by omega, by omega⟩) (pR.fl f0 (by decide)) i0_VCj) ?_)
          rintro s993 v ⟨hG_s993, t_s993, rfl, VCj_s993⟩
          have f_s993 : FL [3329, 3334, 3335, 3336, 3392, 3456, 3520, 3584, 3276, 3648, 3712, 3776, 3840, 3904, 3968, 3277, 4032] s0 s993 := f0.tr t_s993 (by decide)
          have q994 : s993 46 3 = z977 := (t_s993 46 3 (show 452 ∉ [3329, 3334, 3335, 3336, 3392, 3456, 3520, 3584, 3276, 3648, 3712, 3776, 3840, 3904, 3968, 3277, 4032] from by decide)).trans e_z977.symm
          have q995 : s993 231 3 = z981 := (t_s993 231 3 (show 2884 ∉ [3329, 3334, 3335, 3336, 3392, 3456, 3520, 3584, 3276, 3648, 3712, 3776, 3840, 3904, 3968, 3277, 4032] from by decide)).trans e_z981.symm
          have q996 : s993 0 10 = z985 := (t_s993 0 10 (show 11 ∉ [3329, 3334, 3335, 3336, 3392, 3456, 3520, 3584, 3276, 3648, 3712, 3776, 3840, 3904, 3968, 3277, 4032] from by decide)).trans e_z985.symm
          show xe none 119 56 [(0, .ref 0), (1, vi a), (2, vi b), (3, vi d), (4, vi e)] [] s993 0 0 _
          refine x_A k119_56 (fun _ => rfl) ?_
          refine x_istore k119_57 (ls' := [(5, vi 0), (0, .ref 0), (1, vi a), (2, vi b), (3, vi d), (4, vi e)]) (by decide) rfl ?_
          refine x_A k119_59 (fun _ => rfl) ?_
          refine x_istore k119_60 (ls' := [(6, vi (-1)), (5, vi 0), (0, .ref 0), (1, vi a), (2, vi b), (3, vi d), (4, vi e)]) (by decide) rfl ?_
          refine x_A k119_62 (fun _ => rfl) ?_
          refine x_getR k119_63 (f := 8) rfl (q := 0) (n := 12) (kd := 3) ⟨by decide, rfl⟩ (q2 := 231) (by decide) rfl ?_
          refine x_getR k119_66 (f := 0) rfl (q := 231) (n := 4) (kd := 12) ⟨by decide, rfl⟩ (q2 := 232) (by decide) rfl ?_
          refine x_A k119_69 (fun _ => rfl) ?_
          refine x_iald k119_70 (q := 232) (n := 4) ⟨by decide, rfl⟩ (by decide) (by first | exact x_rbl b_b rfl rfl | exact ⟨by omega, by omega⟩) ?_
          refine x_top (fun z997 e_z997 => ?_)
          have g_z997 : (0 : Int) ≤ s993 232 b.toNat ∧ s993 232 b.toNat ≤ 5 := hG_s993 232 b.toNat
          refine x_A k119_71 (fun _ => rfl) ?_
          refine x_isub k119_72 ?_
          refine x_top (fun z998 e_z998 => ?_)
          refine x_istore k119_73 (ls' := [(7, vi z998), (6, vi (-1)), (5, vi 0), (0, .ref 0), (1, vi a), (2, vi b), (3, vi d), (4, vi e)]) (by decide) rfl ?_
          refine x_ls (l := [(0, .ref 0), (1, vi a), (2, vi b), (3, vi d), (4, vi e), (5, vi 0), (6, vi (-1)), (7, vi z998)]) (show ([0, 1, 2, 3, 4, 5, 6, 7] : List Nat).Nodup from by decide) ⟨rfl, rfl, rfl, rfl, rfl, rfl, rfl, rfl, trivial⟩ ?_
          exact L_V_X10_of_0_75 s0 hJ0 a b_a b b_b d b_d e b_e pR  (((z998 - (-1)) + 1 : Int)).toNat s993 a b d e 0 (-1) z998 hG_s993 f_s993 (by first | exact x_rb b_a rfl rfl | exact ⟨by omega, by omega⟩) (by first | exact x_rb b_b rfl rfl | exact ⟨by omega, by omega⟩) (by first | exact x_rb b_d rfl rfl | exact ⟨by omega, by omega⟩) (by first | exact x_rb b_e rfl rfl | exact ⟨by omega, by omega⟩) ⟨by decide, by decide⟩ ⟨by decide, by decide⟩ (by first | exact x_rbe e_z998 g_z998 rfl rfl | exact x_rb g_z998 rfl rfl | exact ⟨by omega, by omega⟩) VCj_s993  (by omega)
        · rw [e_z989]
          show xe none 119 41 [(0, .ref 0), (1, vi a), (2, vi b), (3, vi d), (4, vi e)] [vi 0] s0 0 0 _
          refine x_if_ne k119_41 (t := 48) rfl ⟨by decide, by decide⟩ (fun c999 => by exfalso; omega) (fun c999 => ?_)
          refine x_sipush k119_44 (by decide +kernel) ?_
          exact x_iret k119_47 rfl ⟨hG0, f0, (-1002), rfl, ⟨by decide, by decide⟩, i0_VCj⟩
      · rw [e_z986]
        show xe none 119 31 [(0, .ref 0), (1, vi a), (2, vi b), (3, vi d), (4, vi e)] [vi 0] s0 0 0 _
        refine x_if_eq k119_31 (t := 44) rfl ⟨by decide, by decide⟩ (fun c1000 => ?_) (fun c1000 => by exfalso; omega)
        refine x_sipush k119_44 (by decide +kernel) ?_
        exact x_iret k119_47 rfl ⟨hG0, f0, (-1002), rfl, ⟨by decide, by decide⟩, i0_VCj⟩
    · rw [e_z982]
      show xe none 119 19 [(0, .ref 0), (1, vi a), (2, vi b), (3, vi d), (4, vi e)] [vi 0] s0 0 0 _
      refine x_if_ne k119_19 (t := 26) rfl ⟨by decide, by decide⟩ (fun c1001 => by exfalso; omega) (fun c1001 => ?_)
      refine x_sipush k119_22 (by decide +kernel) ?_
      exact x_iret k119_25 rfl ⟨hG0, f0, (-1001), rfl, ⟨by decide, by decide⟩, i0_VCj⟩
  · rw [e_z978]
    show xe none 119 8 [(0, .ref 0), (1, vi a), (2, vi b), (3, vi d), (4, vi e)] [vi 0] s0 0 0 _
    refine x_if_eq k119_8 (t := 22) rfl ⟨by decide, by decide⟩ (fun c1002 => ?_) (fun c1002 => by exfalso; omega)
    refine x_sipush k119_22 (by decide +kernel) ?_
    exact x_iret k119_25 rfl ⟨hG0, f0, (-1001), rfl, ⟨by decide, by decide⟩, i0_VCj⟩
set_option maxHeartbeats 8000000 in
theorem L_V_X10_split_0_63 (s0 : xS) (hJ0 : J s0) (a : Int) (b_a : (-2147483648) ≤ a ∧ a ≤ 2147483647) (b : Int) (b_b : (-2147483648) ≤ b ∧ b ≤ 2147483647) (d : Int) (b_d : (-2147483648) ≤ d ∧ d ≤ 2147483647) (pR : R1 s0)  : ∀ (n : Nat) (s : xS) (x1 : Int) (x2 : Int) (x3 : Int) (x4 : Int) (x6 : Int) (x7 : Int) (x8 : Int) (hG : GI s) (f : FL [3329, 3334, 3335, 3336, 3392, 3456, 3520, 3584, 3276, 3648, 3712, 3776, 3840, 3904, 3968, 3277, 4032] s0 s) (b_x1 : 0 ≤ x1 ∧ x1 ≤ 39) (b_x2 : 0 ≤ x2 ∧ x2 ≤ 9) (b_x3 : 0 ≤ x3 ∧ x3 ≤ 1) (b_x4 : in64 x4) (b_x6 : (-1) ≤ x6 ∧ x6 ≤ 39) (b_x7 : (-1) ≤ x7 ∧ x7 ≤ 127) (b_x8 : 0 ≤ x8 ∧ x8 ≤ 40) (r_6_8 : x6 ≤ x8 + (-1)) (i_VCj : VCj s)  (hm : (40 - x8) < (n : Int)), xe none 120 63 [(0, .ref 0), (1, vi x1), (2, vi x2), (3, vi x3), (4, vj x4), (6, vi x6), (7, vi x7), (8, vi x8)] [] s 0 0 (fun s' v => GI s' ∧ FL [3329, 3334, 3335, 3336, 3392, 3456, 3520, 3584, 3276, 3648, 3712, 3776, 3840, 3904, 3968, 3277, 4032] s0 s' ∧ ∃ z, v = some (vi z) ∧ ((-1004) ≤ z ∧ z ≤ 127) ∧ VCj s') := by
  intro n
  induction n with
  | zero => intro s x1 x2 x3 x4 x6 x7 x8 hG f b_x1 b_x2 b_x3 b_x4 b_x6 b_x7 b_x8 r_6_8 i_VCj  hm; exfalso; omega
  | succ n ih =>
    intro s x1 x2 x3 x4 x6 x7 x8 hG f b_x1 b_x2 b_x3 b_x4 b_x6 b_x7 b_x8 r_6_8 i_VCj  hm
    refine x_A k120_63 (fun _ => rfl) ?_
    refine x_A k120_65 (fun _ => rfl) ?_
    refine x_getR k120_66 (f := 0) rfl (q := 0) (n := 12) (kd := 3) ⟨by decide, rfl⟩ (q2 := 1) (by decide) rfl ?_
    refine x_getI k120_69 (f := 4) rfl (q := 1) (n := 5) (kd := 4) ⟨by decide, rfl⟩ (by decide) rfl ?_
    refine x_top (fun z511 e_z511 => ?_)
    have g_z511 : (1 : Int) ≤ s 1 4 ∧ s 1 4 ≤ 40 := hG 1 4
    refine x_ic_ge k120_72 (t := 148) rfl (by first | exact x_rb b_x8 rfl rfl | exact ⟨by omega, by omega⟩) (by first | exact x_rbe e_z511 g_z511 rfl rfl | exact x_rb g_z511 rfl rfl | exact ⟨by omega, by omega⟩) (fun c512 => ?_) (fun c512 => ?_)
    · skip
      refine x_A k120_148 (fun _ => rfl) ?_
      refine x_if_ne k120_149 (t := 157) rfl (by first | exact x_rb b_x3 rfl rfl | exact ⟨by omega, by omega⟩) (fun c513 => ?_) (fun c513 => ?_)
      · skip
        refine x_A k120_157 (fun _ => rfl) ?_
        exact x_iret k120_159 rfl ⟨hG, f, x7, rfl, (by first | exact x_rb b_x7 rfl rfl | exact ⟨by omega, by omega⟩), i_VCj⟩
      · skip
        refine x_A k120_152 (fun _ => rfl) ?_
        refine x_goto k120_154 (t := 159) rfl ?_
        exact x_iret k120_159 rfl ⟨hG, f, x6, rfl, (by first | exact x_rb b_x6 rfl rfl | exact ⟨by omega, by omega⟩), i_VCj⟩
    · skip
      refine x_A k120_75 (fun _ => rfl) ?_
      refine x_A k120_76 (fun _ => rfl) ?_
      refine x_A k120_78 (fun _ => rfl) ?_
      refine x_A k120_79 (fun _ => rfl) ?_
      refine x_callV k120_80 (y := 131) (n := 3) (w0 := 0) (w1 := 3) (as := [vi x8, vi x1, vi x2]) (rest := []) (by decide +kernel) (q := 0) (nq := 12) (kq := 3) ⟨by decide, rfl⟩ rfl rfl rfl rfl (xe_mono (C_X10_isApart_0 s hG x8 (by first | exact x_rb b_x8 rfl rfl | exact ⟨by omega, by omega⟩) x1 (by first | exact x_rb b_x1 rfl rfl | exact ⟨by omega, by omega⟩) x2 (by first | exact x_rb b_x2 rfl rfl | exact ⟨by omega, by omega⟩)) ?_)
      rintro s515 v ⟨-, t_s515, z514, rfl, g_z514⟩
      rw [t_s515.nil]
      show xe none 120 83 [(0, .ref 0), (1, vi x1), (2, vi x2), (3, vi x3), (4, vj x4), (6, vi x6), (7, vi x7), (8, vi x8)] [vi z514] s 0 0 _
      refine x_if_ne k120_83 (t := 89) rfl (by first | exact x_rbe e_z514 g_z514 rfl rfl | exact x_rb g_z514 rfl rfl | exact ⟨by omega, by omega⟩) (fun c516 => ?_) (fun c516 => ?_)
      · skip
        refine x_A k120_89 (fun _ => rfl) ?_
        refine x_A k120_91 (fun _ => rfl) ?_
        refine x_getR k120_92 (f := 9) rfl (q := 0) (n := 12) (kd := 3) ⟨by decide, rfl⟩ (q2 := 243) (by decide) rfl ?_
        refine x_A k120_95 (fun _ => rfl) ?_
        refine x_callV k120_97 (y := 79) (n := 1) (w0 := 2) (w1 := 1) (as := [vi x8]) (rest := [vj x4]) (by decide +kernel) (q := 243) (nq := 13) (kq := 13) ⟨by decide, rfl⟩ rfl rfl rfl rfl (xe_mono (C_X8_showing_243 s hG x8 (by first | exact x_rb b_x8 rfl rfl | exact ⟨by omega, by omega⟩)) ?_)
        rintro s518 v ⟨-, t_s518, z517, rfl, b_z517⟩
        rw [t_s518.nil]
        show xe none 120 100 [(0, .ref 0), (1, vi x1), (2, vi x2), (3, vi x3), (4, vj x4), (6, vi x6), (7, vi x7), (8, vi x8)] [vj z517, vj x4] s 0 0 _
        refine x_land_any k120_100 (fun z519 b_z519 => ?_)
        refine x_callS k120_101 (y := 219) (n := 1) (w0 := 0) (w1 := 2) (as := [vj z519]) (rest := []) (by decide +kernel) rfl rfl rfl rfl (xe_mono (C_J13_bitCount_95d88 s hG z519 b_z519) ?_)
        rintro s521 v ⟨-, t_s521, z520, rfl, g_z520⟩
        rw [t_s521.nil]
        show xe none 120 104 [(0, .ref 0), (1, vi x1), (2, vi x2), (3, vi x3), (4, vj x4), (6, vi x6), (7, vi x7), (8, vi x8)] [vi z520] s 0 0 _
        refine x_istore k120_104 (ls' := [(9, vi z520), (0, .ref 0), (1, vi x1), (2, vi x2), (3, vi x3), (4, vj x4), (6, vi x6), (7, vi x7), (8, vi x8)]) (by decide) rfl ?_
        refine x_A k120_106 (fun _ => rfl) ?_
        refine x_A k120_108 (fun _ => rfl) ?_
        refine x_callS k120_110 (y := 219) (n := 1) (w0 := 1) (w1 := 2) (as := [vj x4]) (rest := [vi z520]) (by decide +kernel) rfl rfl rfl rfl (xe_mono (C_J13_bitCount_95d88 s hG x4 b_x4) ?_)
        rintro s523 v ⟨-, t_s523, z522, rfl, g_z522⟩
        rw [t_s523.nil]
        show xe none 120 113 [(9, vi z520), (0, .ref 0), (1, vi x1), (2, vi x2), (3, vi x3), (4, vj x4), (6, vi x6), (7, vi x7), (8, vi x8)] [vi z522, vi z520] s 0 0 _
        refine x_A k120_113 (fun _ => rfl) ?_
        refine x_isub k120_115 ?_
        refine x_top (fun z524 e_z524 => ?_)
        refine x_callS k120_116 (y := 220) (n := 2) (w0 := 0) (w1 := 2) (as := [vi z520, vi z524]) (rest := []) (by decide +kernel) rfl rfl rfl rfl (xe_mono (C_J9_max_7cf53 s hG z520 (by first | exact x_rbe e_z520 g_z520 rfl rfl | exact x_rb g_z520 rfl rfl | exact ⟨by omega, by omega⟩) z524 (by first | exact x_rbe e_z524 g_z524 rfl rfl | exact x_rb g_z524 rfl rfl | exact ⟨by omega, by omega⟩)) ?_)
        rintro s526 v ⟨h_s526, z525, rfl, g_z525⟩
        rw [h_s526]
        show xe none 120 119 [(9, vi z520), (0, .ref 0), (1, vi x1), (2, vi x2), (3, vi x3), (4, vj x4), (6, vi x6), (7, vi x7), (8, vi x8)] [vi z525] s 0 0 _
        refine x_istore k120_119 (ls' := [(10, vi z525), (9, vi z520), (0, .ref 0), (1, vi x1), (2, vi x2), (3, vi x3), (4, vj x4), (6, vi x6), (7, vi x7), (8, vi x8)]) (by decide) rfl ?_
        refine x_A k120_121 (fun _ => rfl) ?_
        refine x_A k120_123 (fun _ => rfl) ?_
        refine x_ic_eq k120_124 (t := 134) rfl (by first | exact x_rb b_x6 rfl rfl | exact ⟨by omega, by omega⟩) ⟨by decide, by decide⟩ (fun c527 => ?_) (fun c527 => ?_)
        · skip
          refine x_A k120_134 (fun _ => rfl) ?_
          refine x_istore k120_136 (ls' := [(6, vi x8), (10, vi z525), (9, vi z520), (0, .ref 0), (1, vi x1), (2, vi x2), (3, vi x3), (4, vj x4), (7, vi x7), (8, vi x8)]) (by decide) rfl ?_
          refine x_A k120_138 (fun _ => rfl) ?_
          refine x_istore k120_140 (ls' := [(7, vi z525), (6, vi x8), (10, vi z525), (9, vi z520), (0, .ref 0), (1, vi x1), (2, vi x2), (3, vi x3), (4, vj x4), (8, vi x8)]) (by decide) rfl ?_
          refine x_iinc k120_142 (ls' := [(8, vi (x8 + 1)), (7, vi z525), (6, vi x8), (10, vi z525), (9, vi z520), (0, .ref 0), (1, vi x1), (2, vi x2), (3, vi x3), (4, vj x4)]) rfl (by decide) rfl ?_
          refine x_goto k120_145 (t := 63) rfl ?_
          refine x_ls (l := [(0, .ref 0), (1, vi x1), (2, vi x2), (3, vi x3), (4, vj x4), (6, vi x8), (7, vi z525), (8, vi (x8 + 1))]) (show ([0, 1, 2, 3, 4, 6, 7, 8] : List Nat).Nodup from by decide) ⟨rfl, rfl, rfl, rfl, rfl, rfl, rfl, rfl, trivial⟩ ?_
          exact ih s x1 x2 x3 x4 x8 z525 (x8 + 1) hG f (by first | exact x_rb b_x1 rfl rfl | exact ⟨by omega, by omega⟩) (by first | exact x_rb b_x2 rfl rfl | exact ⟨by omega, by omega⟩) (by first | exact x_rb b_x3 rfl rfl | exact ⟨by omega, by omega⟩) b_x4 (by first | exact x_rb b_x8 rfl rfl | exact ⟨by omega, by omega⟩) (by first | exact x_rbe e_z525 g_z525 rfl rfl | exact x_rb g_z525 rfl rfl | exact ⟨by omega, by omega⟩) ⟨by omega, by omega⟩ (by omega) i_VCj  (by omega)
        · skip
          refine x_A k120_127 (fun _ => rfl) ?_
          refine x_A k120_129 (fun _ => rfl) ?_
          refine x_ic_ge k120_131 (t := 142) rfl (by first | exact x_rbe e_z525 g_z525 rfl rfl | exact x_rb g_z525 rfl rfl | exact ⟨by omega, by omega⟩) (by first | exact x_rb b_x7 rfl rfl | exact ⟨by omega, by omega⟩) (fun c528 => ?_) (fun c528 => ?_)
          · skip
            refine x_iinc k120_142 (ls' := [(8, vi (x8 + 1)), (10, vi z525), (9, vi z520), (0, .ref 0), (1, vi x1), (2, vi x2), (3, vi x3), (4, vj x4), (6, vi x6), (7, vi x7)]) rfl (by decide) rfl ?_
            refine x_goto k120_145 (t := 63) rfl ?_
            refine x_ls (l := [(0, .ref 0), (1, vi x1), (2, vi x2), (3, vi x3), (4, vj x4), (6, vi x6), (7, vi x7), (8, vi (x8 + 1))]) (show ([0, 1, 2, 3, 4, 6, 7, 8] : List Nat).Nodup from by decide) ⟨rfl, rfl, rfl, rfl, rfl, rfl, rfl, rfl, trivial⟩ ?_
            exact ih s x1 x2 x3 x4 x6 x7 (x8 + 1) hG f (by first | exact x_rb b_x1 rfl rfl | exact ⟨by omega, by omega⟩) (by first | exact x_rb b_x2 rfl rfl | exact ⟨by omega, by omega⟩) (by first | exact x_rb b_x3 rfl rfl | exact ⟨by omega, by omega⟩) b_x4 (by first | exact x_rb b_x6 rfl rfl | exact ⟨by omega, by omega⟩) (by first | exact x_rb b_x7 rfl rfl | exact ⟨by omega, by omega⟩) ⟨by omega, by omega⟩ (by omega) i_VCj  (by omega)
          · skip
            refine x_A k120_134 (fun _ => rfl) ?_
            refine x_istore k120_136 (ls' := [(6, vi x8), (10, vi z525), (9, vi z520), (0, .ref 0), (1, vi x1), (2, vi x2), (3, vi x3), (4, vj x4), (7, vi x7), (8, vi x8)]) (by decide) rfl ?_
            refine x_A k120_138 (fun _ => rfl) ?_
            refine x_istore k120_140 (ls' := [(7, vi z525), (6, vi x8), (10, vi z525), (9, vi z520), (0, .ref 0), (1, vi x1), (2, vi x2), (3, vi x3), (4, vj x4), (8, vi x8)]) (by decide) rfl ?_
            refine x_iinc k120_142 (ls' := [(8, vi (x8 + 1)), (7, vi z525), (6, vi x8), (10, vi z525), (9, vi z520), (0, .ref 0), (1, vi x1), (2, vi x2), (3, vi x3), (4, vj x4)]) rfl (by decide) rfl ?_
            refine x_goto k120_145 (t := 63) rfl ?_
            refine x_ls (l := [(0, .ref 0), (1, vi x1), (2, vi x2), (3, vi x3), (4, vj x4), (6, vi x8), (7, vi z525), (8, vi (x8 + 1))]) (show ([0, 1, 2, 3, 4, 6, 7, 8] : List Nat).Nodup from by decide) ⟨rfl, rfl, rfl, rfl, rfl, rfl, rfl, rfl, trivial⟩ ?_
            exact ih s x1 x2 x3 x4 x8 z525 (x8 + 1) hG f (by first | exact x_rb b_x1 rfl rfl | exact ⟨by omega, by omega⟩) (by first | exact x_rb b_x2 rfl rfl | exact ⟨by omega, by omega⟩) (by first | exact x_rb b_x3 rfl rfl | exact ⟨by omega, by omega⟩) b_x4 (by first | exact x_rb b_x8 rfl rfl | exact ⟨by omega, by omega⟩) (by first | exact x_rbe e_z525 g_z525 rfl rfl | exact x_rb g_z525 rfl rfl | exact ⟨by omega, by omega⟩) ⟨by omega, by omega⟩ (by omega) i_VCj  (by omega)
      · skip
        refine x_goto k120_86 (t := 142) rfl ?_
        refine x_iinc k120_142 (ls' := [(8, vi (x8 + 1)), (0, .ref 0), (1, vi x1), (2, vi x2), (3, vi x3), (4, vj x4), (6, vi x6), (7, vi x7)]) rfl (by decide) rfl ?_
        refine x_goto k120_145 (t := 63) rfl ?_
        refine x_ls (l := [(0, .ref 0), (1, vi x1), (2, vi x2), (3, vi x3), (4, vj x4), (6, vi x6), (7, vi x7), (8, vi (x8 + 1))]) (show ([0, 1, 2, 3, 4, 6, 7, 8] : List Nat).Nodup from by decide) ⟨rfl, rfl, rfl, rfl, rfl, rfl, rfl, rfl, trivial⟩ ?_
        exact ih s x1 x2 x3 x4 x6 x7 (x8 + 1) hG f (by first | exact x_rb b_x1 rfl rfl | exact ⟨by omega, by omega⟩) (by first | exact x_rb b_x2 rfl rfl | exact ⟨by omega, by omega⟩) (by first | exact x_rb b_x3 rfl rfl | exact ⟨by omega, by omega⟩) b_x4 (by first | exact x_rb b_x6 rfl rfl | exact ⟨by omega, by omega⟩) (by first | exact x_rb b_x7 rfl rfl | exact ⟨by omega, by omega⟩) ⟨by omega, by omega⟩ (by omega) i_VCj  (by omega)
