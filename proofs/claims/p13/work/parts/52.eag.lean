set_option maxHeartbeats 8000000 in
theorem E_X10_move_0 (s0 : xS) (hG0 : GI s0) (a : Int) (b_a : (-2147483648) ≤ a ∧ a ≤ 2147483647) (b : Int) (b_b : (-2147483648) ≤ b ∧ b ≤ 2147483647) (p_1_4 : 1 ≤ s0 1 4 ∧ s0 1 4 ≤ 40) (p_0_10 : 0 ≤ s0 0 10 ∧ s0 0 10 ≤ 9) : xe none 93 0 (lv_args 0 [.ref 0, vi a, vi b]) [] s0 0 0 (fun s' v => GI s' ∧ FL [384, 3276, 3277] s0 s' ∧ ∃ z, v = some (vi z) ∧ ((-1004) ≤ z ∧ z ≤ 39) ∧ (MvC s0 s' a b z)) := by
  have f0 : FL [384, 3276, 3277] s0 s0 := FL.rf
  show xe none 93 0 [(0, .ref 0), (1, vi a), (2, vi b)] [] s0 0 0 _
  obtain ⟨z1, e_z1⟩ : ∃ z, z = s0 1 4 := ⟨_, rfl⟩
  have g_z1 : (1 : Int) ≤ s0 1 4 ∧ s0 1 4 ≤ 40 := hG0 1 4
  obtain ⟨z2, e_z2⟩ : ∃ z, z = s0 0 10 := ⟨_, rfl⟩
  have g_z2 : (0 : Int) ≤ s0 0 10 ∧ s0 0 10 ≤ 9 := hG0 0 10
  refine x_A k93_0 (fun _ => rfl) ?_
  refine x_getR k93_1 (f := 0) rfl (q := 0) (n := 12) (kd := 3) ⟨by decide, rfl⟩ (q2 := 1) (by decide) rfl ?_
  refine x_A k93_4 (fun _ => rfl) ?_
  refine x_callV k93_5 (y := 59) (n := 1) (w0 := 0) (w1 := 1) (as := [vi a]) (rest := []) (by decide +kernel) (q := 1) (nq := 5) (kq := 4) ⟨by decide, rfl⟩ rfl rfl rfl rfl (xe_mono (C_X7_has_1 s0 hG0 a (by first | exact x_rb b_a rfl rfl | exact ⟨by omega, by omega⟩)) ?_)
  rintro s4 v ⟨h_s4, z3, rfl, hz_z3⟩
  rw [h_s4]
  rcases hz_z3 with ⟨c_z3, e_z3⟩ | ⟨c_z3, e_z3⟩
  · rw [e_z3]
    show xe none 93 8 [(0, .ref 0), (1, vi a), (2, vi b)] [vi 1] s0 0 0 _
    refine x_if_eq k93_8 (t := 22) rfl ⟨by decide, by decide⟩ (fun c5 => by exfalso; omega) (fun c5 => ?_)
    refine x_A k93_11 (fun _ => rfl) ?_
    refine x_getR k93_12 (f := 0) rfl (q := 0) (n := 12) (kd := 3) ⟨by decide, rfl⟩ (q2 := 1) (by decide) rfl ?_
    refine x_A k93_15 (fun _ => rfl) ?_
    refine x_callV k93_16 (y := 59) (n := 1) (w0 := 0) (w1 := 1) (as := [vi b]) (rest := []) (by decide +kernel) (q := 1) (nq := 5) (kq := 4) ⟨by decide, rfl⟩ rfl rfl rfl rfl (xe_mono (C_X7_has_1 s0 hG0 b (by first | exact x_rb b_b rfl rfl | exact ⟨by omega, by omega⟩)) ?_)
    rintro s7 v ⟨h_s7, z6, rfl, hz_z6⟩
    rw [h_s7]
    rcases hz_z6 with ⟨c_z6, e_z6⟩ | ⟨c_z6, e_z6⟩
    · rw [e_z6]
      show xe none 93 19 [(0, .ref 0), (1, vi a), (2, vi b)] [vi 1] s0 0 0 _
      refine x_if_ne k93_19 (t := 26) rfl ⟨by decide, by decide⟩ (fun c8 => ?_) (fun c8 => by exfalso; omega)
      refine x_A k93_26 (fun _ => rfl) ?_
      refine x_if_eq k93_27 (t := 60) rfl (by first | exact x_rb b_a rfl rfl | exact ⟨by omega, by omega⟩) (fun c9 => ?_) (fun c9 => ?_)
      · skip
        refine x_sipush k93_60 (by decide +kernel) ?_
        exact x_iret k93_63 rfl ⟨hG0, f0, (-1003), rfl, ⟨by decide, by decide⟩, (by unfold MvC; exact Or.inr (Or.inl ⟨by omega, fun w => by obtain ⟨w1, -⟩ := w; omega, rfl, fun _ _ _ _ => rfl⟩))⟩
      · skip
        refine x_A k93_30 (fun _ => rfl) ?_
        refine x_getR k93_31 (f := 0) rfl (q := 0) (n := 12) (kd := 3) ⟨by decide, rfl⟩ (q2 := 1) (by decide) rfl ?_
        refine x_A k93_34 (fun _ => rfl) ?_
        refine x_A k93_35 (fun _ => rfl) ?_
        refine x_getI k93_36 (f := 10) rfl (q := 0) (n := 12) (kd := 3) ⟨by decide, rfl⟩ (by decide) rfl ?_
        refine x_rw (e_z2.symm) ?_
        refine x_callV k93_39 (y := 64) (n := 2) (w0 := 0) (w1 := 2) (as := [vi a, vi z2]) (rest := []) (by decide +kernel) (q := 1) (nq := 5) (kq := 4) ⟨by decide, rfl⟩ rfl rfl rfl rfl (xe_mono (E_X7_isThere_1 s0 hG0 a (by first | exact x_rb b_a rfl rfl | exact ⟨by omega, by omega⟩) z2 (by first | exact x_rbe e_z2 g_z2 rfl rfl | exact x_rb g_z2 rfl rfl | exact ⟨by omega, by omega⟩)) ?_)
        rintro s11 v ⟨h_s11, z10, rfl, hz_z10⟩
        rw [h_s11]
        rcases hz_z10 with ⟨c_z10, e_z10, m_z10⟩ | ⟨e_z10, m_z10⟩
        · rw [e_z10]
          show xe none 93 42 [(0, .ref 0), (1, vi a), (2, vi b)] [vi 1] s0 0 0 _
          refine x_if_eq k93_42 (t := 60) rfl ⟨by decide, by decide⟩ (fun c12 => by exfalso; omega) (fun c12 => ?_)
          refine x_A k93_45 (fun _ => rfl) ?_
          refine x_getR k93_46 (f := 0) rfl (q := 0) (n := 12) (kd := 3) ⟨by decide, rfl⟩ (q2 := 1) (by decide) rfl ?_
          refine x_A k93_49 (fun _ => rfl) ?_
          refine x_A k93_50 (fun _ => rfl) ?_
          refine x_getI k93_51 (f := 10) rfl (q := 0) (n := 12) (kd := 3) ⟨by decide, rfl⟩ (by decide) rfl ?_
          refine x_rw (e_z2.symm) ?_
          refine x_callV k93_54 (y := 64) (n := 2) (w0 := 0) (w1 := 2) (as := [vi b, vi z2]) (rest := []) (by decide +kernel) (q := 1) (nq := 5) (kq := 4) ⟨by decide, rfl⟩ rfl rfl rfl rfl (xe_mono (E_X7_isThere_1 s0 hG0 b (by first | exact x_rb b_b rfl rfl | exact ⟨by omega, by omega⟩) z2 (by first | exact x_rbe e_z2 g_z2 rfl rfl | exact x_rb g_z2 rfl rfl | exact ⟨by omega, by omega⟩)) ?_)
          rintro s14 v ⟨h_s14, z13, rfl, hz_z13⟩
          rw [h_s14]
          rcases hz_z13 with ⟨c_z13, e_z13, m_z13⟩ | ⟨e_z13, m_z13⟩
          · rw [e_z13]
            show xe none 93 57 [(0, .ref 0), (1, vi a), (2, vi b)] [vi 1] s0 0 0 _
            refine x_if_ne k93_57 (t := 64) rfl ⟨by decide, by decide⟩ (fun c15 => ?_) (fun c15 => by exfalso; omega)
            refine x_A k93_64 (fun _ => rfl) ?_
            refine x_getR k93_65 (f := 0) rfl (q := 0) (n := 12) (kd := 3) ⟨by decide, rfl⟩ (q2 := 1) (by decide) rfl ?_
            refine x_A k93_68 (fun _ => rfl) ?_
            refine x_A k93_69 (fun _ => rfl) ?_
            refine x_A k93_70 (fun _ => rfl) ?_
            refine x_getI k93_71 (f := 10) rfl (q := 0) (n := 12) (kd := 3) ⟨by decide, rfl⟩ (by decide) rfl ?_
            refine x_rw (e_z2.symm) ?_
            refine x_callV k93_74 (y := 66) (n := 3) (w0 := 0) (w1 := 3) (as := [vi b, vi a, vi z2]) (rest := []) (by decide +kernel) (q := 1) (nq := 5) (kq := 4) ⟨by decide, rfl⟩ rfl rfl rfl rfl (xe_mono (E_X7_isBelow_1 s0 hG0 b (by first | exact x_rb b_b rfl rfl | exact ⟨by omega, by omega⟩) a (by first | exact x_rb b_a rfl rfl | exact ⟨by omega, by omega⟩) z2 (by first | exact x_rbe e_z2 g_z2 rfl rfl | exact x_rb g_z2 rfl rfl | exact ⟨by omega, by omega⟩)) ?_)
            rintro s17 v ⟨-, t_s17, z16, rfl, g_z16, xp_z16⟩
            rw [t_s17.nil]
            try rw [t_s17.nil] at xp_z16
            show xe none 93 77 [(0, .ref 0), (1, vi a), (2, vi b)] [vi z16] s0 0 0 _
            refine x_if_eq k93_77 (t := 84) rfl (by first | exact x_rbe e_z16 g_z16 rfl rfl | exact x_rb g_z16 rfl rfl | exact ⟨by omega, by omega⟩) (fun c18 => ?_) (fun c18 => ?_)
            · skip
              refine x_A k93_84 (fun _ => rfl) ?_
              refine x_getR k93_85 (f := 9) rfl (q := 0) (n := 12) (kd := 3) ⟨by decide, rfl⟩ (q2 := 243) (by decide) rfl ?_
              refine x_callV k93_88 (y := 73) (n := 0) (w0 := 0) (w1 := 0) (as := []) (rest := []) (by decide +kernel) (q := 243) (nq := 13) (kq := 13) ⟨by decide, rfl⟩ rfl rfl rfl rfl (xe_mono (C_X8_forget_243 s0 hG0) ?_)
              rintro s20 v ⟨hG_s20, t_s20, rfl⟩
              have f_s20 : FL [384, 3276, 3277] s0 s20 := f0.tr t_s20 (by decide +kernel)
              have q21 : s20 1 4 = z1 := (t_s20 1 4 (show 69 ∉ [3276, 3277] from by decide +kernel)).trans e_z1.symm
              have q22 : s20 0 10 = z2 := (t_s20 0 10 (show 11 ∉ [3276, 3277] from by decide +kernel)).trans e_z2.symm
              show xe none 93 91 [(0, .ref 0), (1, vi a), (2, vi b)] [] s20 0 0 _
              have FR := rows40 t_s20 (by decide)
              refine x_A k93_91 (fun _ => rfl) ?_
              refine x_getR k93_92 (f := 0) rfl (q := 0) (n := 12) (kd := 3) ⟨by decide, rfl⟩ (q2 := 1) (by decide) rfl ?_
              refine x_A k93_95 (fun _ => rfl) ?_
              refine x_A k93_96 (fun _ => rfl) ?_
              refine x_getI k93_97 (f := 10) rfl (q := 0) (n := 12) (kd := 3) ⟨by decide, rfl⟩ (by decide) rfl ?_
              refine x_rw (q22) ?_
              refine x_callV k93_100 (y := 62) (n := 2) (w0 := 0) (w1 := 2) (as := [vi a, vi z2]) (rest := []) (by decide +kernel) (q := 1) (nq := 5) (kq := 4) ⟨by decide, rfl⟩ rfl rfl rfl rfl (xe_mono (E_X7_parentIn_1 s20 hG_s20 a (by first | exact x_rb b_a rfl rfl | exact ⟨by omega, by omega⟩) z2 (by first | exact x_rbe e_z2 g_z2 rfl rfl | exact x_rb g_z2 rfl rfl | exact ⟨by omega, by omega⟩)) ?_)
              rintro s24 v ⟨-, t_s24, z23, rfl, g_z23, xp_z23⟩
              rw [t_s24.nil]
              try rw [t_s24.nil] at xp_z23
              show xe none 93 103 [(0, .ref 0), (1, vi a), (2, vi b)] [vi z23] s20 0 0 _
              refine x_istore_n k93_103 (ls' := [(3, vi z23), (0, .ref 0), (1, vi a), (2, vi b)]) (by decide) rfl ?_
              refine x_A k93_104 (fun _ => rfl) ?_
              refine x_getR k93_105 (f := 0) rfl (q := 0) (n := 12) (kd := 3) ⟨by decide, rfl⟩ (q2 := 1) (by decide) rfl ?_
              refine x_A k93_108 (fun _ => rfl) ?_
              refine x_A k93_109 (fun _ => rfl) ?_
              refine x_A k93_110 (fun _ => rfl) ?_
              refine x_getI k93_111 (f := 10) rfl (q := 0) (n := 12) (kd := 3) ⟨by decide, rfl⟩ (by decide) rfl ?_
              refine x_rw (q22) ?_
              refine x_callV k93_114 (y := 61) (n := 3) (w0 := 0) (w1 := 3) (as := [vi a, vi b, vi z2]) (rest := []) (by decide +kernel) (q := 1) (nq := 5) (kq := 4) ⟨by decide, rfl⟩ rfl rfl rfl rfl (xe_mono (E_X7_setParent_1 s20 hG_s20 a (by first | exact x_rb b_a rfl rfl | exact ⟨by omega, by omega⟩) b (by first | exact x_rb b_b rfl rfl | exact ⟨by omega, by omega⟩) z2 (by first | exact x_rbe e_z2 g_z2 rfl rfl | exact x_rb g_z2 rfl rfl | exact ⟨by omega, by omega⟩) ⟨by omega, by omega⟩) ?_)
              rintro s26 v ⟨hG_s26, t_s26, rfl, xp_z25⟩
              have f_s26 : FL [384, 3276, 3277] s0 s26 := f_s20.tr t_s26 (by decide +kernel)
              have q27 : s26 1 4 = z1 := (t_s26 1 4 (show 69 ∉ [384] from by decide +kernel)).trans q21
              have q28 : s26 0 10 = z2 := (t_s26 0 10 (show 11 ∉ [384] from by decide +kernel)).trans q22
              show xe none 93 117 [(3, vi z23), (0, .ref 0), (1, vi a), (2, vi b)] [] s26 0 0 _
              refine x_A k93_117 (fun _ => rfl) ?_
              exact x_iret k93_118 rfl ⟨hG_s26, f_s26, z23, rfl, (by first | exact x_rbe e_z23 g_z23 rfl rfl | exact x_rb g_z23 rfl rfl | exact ⟨by omega, by omega⟩), (by unfold MvC; exact xp_z25.elim (fun u => by exfalso; omega) (fun u => Or.inr (Or.inr ⟨by omega, ⟨by omega, fun w => xp_z16.elim (fun q => by exfalso; omega) (fun q => q.2 ⟨by omega, by rw [show z2 = s0 0 10 by omega]; exact w⟩)⟩, by rw [xp_z23]; unfold parC; rw [if_pos (by omega), FR _ _ (by omega) (by omega), show z2 = s0 0 10 by omega], fun r j h1 h2 => by rw [u.2 r j h1 h2, FR r j h1 h2, show z2 = s0 0 10 by omega]⟩)))⟩
            · skip
              refine x_sipush k93_80 (by decide +kernel) ?_
              exact x_iret k93_83 rfl ⟨hG0, f0, (-1003), rfl, ⟨by decide, by decide⟩, (by unfold MvC; exact Or.inr (Or.inl ⟨by omega, fun w => xp_z16.elim (fun q => w.2 (by have q2 := q.2.2; rw [show z2 = s0 0 10 by omega] at q2; exact q2)) (fun q => by exfalso; omega), rfl, fun _ _ _ _ => rfl⟩))⟩
          · rw [e_z13]
            show xe none 93 57 [(0, .ref 0), (1, vi a), (2, vi b)] [vi 0] s0 0 0 _
            refine x_if_ne k93_57 (t := 64) rfl ⟨by decide, by decide⟩ (fun c29 => by exfalso; omega) (fun c29 => ?_)
            refine x_sipush k93_60 (by decide +kernel) ?_
            exact x_iret k93_63 rfl ⟨hG0, f0, (-1003), rfl, ⟨by decide, by decide⟩, (by unfold MvC; exact Or.inr (Or.inl ⟨by omega, fun w => by obtain ⟨w1, -⟩ := w; omega, rfl, fun _ _ _ _ => rfl⟩))⟩
        · rw [e_z10]
          show xe none 93 42 [(0, .ref 0), (1, vi a), (2, vi b)] [vi 0] s0 0 0 _
          refine x_if_eq k93_42 (t := 60) rfl ⟨by decide, by decide⟩ (fun c30 => ?_) (fun c30 => by exfalso; omega)
          refine x_sipush k93_60 (by decide +kernel) ?_
          exact x_iret k93_63 rfl ⟨hG0, f0, (-1003), rfl, ⟨by decide, by decide⟩, (by unfold MvC; exact Or.inr (Or.inl ⟨by omega, fun w => by obtain ⟨w1, -⟩ := w; omega, rfl, fun _ _ _ _ => rfl⟩))⟩
    · rw [e_z6]
      show xe none 93 19 [(0, .ref 0), (1, vi a), (2, vi b)] [vi 0] s0 0 0 _
      refine x_if_ne k93_19 (t := 26) rfl ⟨by decide, by decide⟩ (fun c31 => by exfalso; omega) (fun c31 => ?_)
      refine x_sipush k93_22 (by decide +kernel) ?_
      exact x_iret k93_25 rfl ⟨hG0, f0, (-1001), rfl, ⟨by decide, by decide⟩, (by unfold MvC; exact Or.inl ⟨by omega, rfl, fun _ _ _ _ => rfl⟩)⟩
  · rw [e_z3]
    show xe none 93 8 [(0, .ref 0), (1, vi a), (2, vi b)] [vi 0] s0 0 0 _
    refine x_if_eq k93_8 (t := 22) rfl ⟨by decide, by decide⟩ (fun c32 => ?_) (fun c32 => by exfalso; omega)
    refine x_sipush k93_22 (by decide +kernel) ?_
    exact x_iret k93_25 rfl ⟨hG0, f0, (-1001), rfl, ⟨by decide, by decide⟩, (by unfold MvC; exact Or.inl ⟨by omega, rfl, fun _ _ _ _ => rfl⟩)⟩
set_option maxHeartbeats 8000000 in
theorem E_X11_move_256 (s0 : xS) (hG0 : GI s0) (a : Int) (b_a : (-2147483648) ≤ a ∧ a ≤ 2147483647) (b : Int) (b_b : (-2147483648) ≤ b ∧ b ≤ 2147483647) (p_256_1 : 1 ≤ s0 256 1 ∧ s0 256 1 ≤ 40) (p_256_0 : 0 ≤ s0 256 0 ∧ s0 256 0 ≤ 9) (i0_J : J s0) : xe none 147 0 (lv_args 0 [.ref 256, vi a, vi b]) [] s0 0 0 (fun s' v => GI s' ∧ FL [4352] s0 s' ∧ ∃ z, v = some (vi z) ∧ ((-1004) ≤ z ∧ z ≤ 39) ∧ (MvR s0 s' a b z) ∧ J s') := by
  have f0 : FL [4352] s0 s0 := FL.rf
  show xe none 147 0 [(0, .ref 256), (1, vi a), (2, vi b)] [] s0 0 0 _
  obtain ⟨z1, e_z1⟩ : ∃ z, z = s0 256 1 := ⟨_, rfl⟩
  have g_z1 : (1 : Int) ≤ s0 256 1 ∧ s0 256 1 ≤ 40 := hG0 256 1
  obtain ⟨z2, e_z2⟩ : ∃ z, z = s0 256 0 := ⟨_, rfl⟩
  have g_z2 : (0 : Int) ≤ s0 256 0 ∧ s0 256 0 ≤ 9 := hG0 256 0
  refine x_A k147_0 (fun _ => rfl) ?_
  refine x_A k147_1 (fun _ => rfl) ?_
  refine x_callV k147_2 (y := 137) (n := 1) (w0 := 0) (w1 := 1) (as := [vi a]) (rest := []) (by decide +kernel) (q := 256) (nq := 62) (kq := 15) ⟨by decide, rfl⟩ rfl rfl rfl rfl (xe_mono (C_X11_isMark_256 s0 hG0 a (by first | exact x_rb b_a rfl rfl | exact ⟨by omega, by omega⟩)) ?_)
  rintro s4 v ⟨h_s4, z3, rfl, hz_z3⟩
  rw [h_s4]
  rcases hz_z3 with ⟨c_z3, e_z3⟩ | ⟨c_z3, e_z3⟩
  · rw [e_z3]
    show xe none 147 5 [(0, .ref 256), (1, vi a), (2, vi b)] [vi 1] s0 0 0 _
    refine x_if_eq k147_5 (t := 16) rfl ⟨by decide, by decide⟩ (fun c5 => by exfalso; omega) (fun c5 => ?_)
    refine x_A k147_8 (fun _ => rfl) ?_
    refine x_A k147_9 (fun _ => rfl) ?_
    refine x_callV k147_10 (y := 137) (n := 1) (w0 := 0) (w1 := 1) (as := [vi b]) (rest := []) (by decide +kernel) (q := 256) (nq := 62) (kq := 15) ⟨by decide, rfl⟩ rfl rfl rfl rfl (xe_mono (C_X11_isMark_256 s0 hG0 b (by first | exact x_rb b_b rfl rfl | exact ⟨by omega, by omega⟩)) ?_)
    rintro s7 v ⟨h_s7, z6, rfl, hz_z6⟩
    rw [h_s7]
    rcases hz_z6 with ⟨c_z6, e_z6⟩ | ⟨c_z6, e_z6⟩
    · rw [e_z6]
      show xe none 147 13 [(0, .ref 256), (1, vi a), (2, vi b)] [vi 1] s0 0 0 _
      refine x_if_ne k147_13 (t := 20) rfl ⟨by decide, by decide⟩ (fun c8 => ?_) (fun c8 => by exfalso; omega)
      refine x_A k147_20 (fun _ => rfl) ?_
      refine x_if_eq k147_21 (t := 61) rfl (by first | exact x_rb b_a rfl rfl | exact ⟨by omega, by omega⟩) (fun c9 => ?_) (fun c9 => ?_)
      · skip
        refine x_sipush k147_61 (by decide +kernel) ?_
        exact x_iret k147_64 rfl ⟨hG0, f0, (-1003), rfl, ⟨by decide, by decide⟩, (by unfold MvR; exact Or.inr (Or.inl ⟨by omega, fun w => by obtain ⟨w1, -⟩ := w; omega, rfl, rfl⟩)), i0_J⟩
      · skip
        refine x_A k147_24 (fun _ => rfl) ?_
        refine x_A k147_25 (fun _ => rfl) ?_
        refine x_A k147_26 (fun _ => rfl) ?_
        refine x_getI k147_27 (f := 0) rfl (q := 256) (n := 62) (kd := 15) ⟨by decide, rfl⟩ (by decide) rfl ?_
        refine x_rw (e_z2.symm) ?_
        refine x_callV k147_30 (y := 142) (n := 2) (w0 := 0) (w1 := 2) (as := [vi a, vi z2]) (rest := []) (by decide +kernel) (q := 256) (nq := 62) (kq := 15) ⟨by decide, rfl⟩ rfl rfl rfl rfl (xe_mono (C_X11_isThere_256 s0 hG0 a (by first | exact x_rb b_a rfl rfl | exact ⟨by omega, by omega⟩) z2 (by first | exact x_rbe e_z2 g_z2 rfl rfl | exact x_rb g_z2 rfl rfl | exact ⟨by omega, by omega⟩)) ?_)
        rintro s11 v ⟨h_s11, z10, rfl, hz_z10⟩
        rw [h_s11]
        rcases hz_z10 with ⟨c_z10, e_z10, m_z10⟩ | ⟨e_z10, m_z10⟩
        · rw [e_z10]
          show xe none 147 33 [(0, .ref 256), (1, vi a), (2, vi b)] [vi 1] s0 0 0 _
          refine x_if_eq k147_33 (t := 61) rfl ⟨by decide, by decide⟩ (fun c12 => by exfalso; omega) (fun c12 => ?_)
          refine x_A k147_36 (fun _ => rfl) ?_
          refine x_A k147_37 (fun _ => rfl) ?_
          refine x_A k147_38 (fun _ => rfl) ?_
          refine x_getI k147_39 (f := 0) rfl (q := 256) (n := 62) (kd := 15) ⟨by decide, rfl⟩ (by decide) rfl ?_
          refine x_rw (e_z2.symm) ?_
          refine x_callV k147_42 (y := 142) (n := 2) (w0 := 0) (w1 := 2) (as := [vi b, vi z2]) (rest := []) (by decide +kernel) (q := 256) (nq := 62) (kq := 15) ⟨by decide, rfl⟩ rfl rfl rfl rfl (xe_mono (C_X11_isThere_256 s0 hG0 b (by first | exact x_rb b_b rfl rfl | exact ⟨by omega, by omega⟩) z2 (by first | exact x_rbe e_z2 g_z2 rfl rfl | exact x_rb g_z2 rfl rfl | exact ⟨by omega, by omega⟩)) ?_)
          rintro s14 v ⟨h_s14, z13, rfl, hz_z13⟩
          rw [h_s14]
          rcases hz_z13 with ⟨c_z13, e_z13, m_z13⟩ | ⟨e_z13, m_z13⟩
          · rw [e_z13]
            show xe none 147 45 [(0, .ref 256), (1, vi a), (2, vi b)] [vi 1] s0 0 0 _
            refine x_if_eq k147_45 (t := 61) rfl ⟨by decide, by decide⟩ (fun c15 => by exfalso; omega) (fun c15 => ?_)
            refine x_A k147_48 (fun _ => rfl) ?_
            refine x_A k147_49 (fun _ => rfl) ?_
            refine x_A k147_50 (fun _ => rfl) ?_
            refine x_A k147_51 (fun _ => rfl) ?_
            refine x_getI k147_52 (f := 0) rfl (q := 256) (n := 62) (kd := 15) ⟨by decide, rfl⟩ (by decide) rfl ?_
            refine x_rw (e_z2.symm) ?_
            refine x_callV k147_55 (y := 143) (n := 3) (w0 := 0) (w1 := 3) (as := [vi b, vi a, vi z2]) (rest := []) (by decide +kernel) (q := 256) (nq := 62) (kq := 15) ⟨by decide, rfl⟩ rfl rfl rfl rfl (xe_mono (E_X11_isBelow_256 s0 hG0 i0_J b (by first | exact x_rb b_b rfl rfl | exact ⟨by omega, by omega⟩) a (by first | exact x_rb b_a rfl rfl | exact ⟨by omega, by omega⟩) z2 (by first | exact x_rbe e_z2 g_z2 rfl rfl | exact x_rb g_z2 rfl rfl | exact ⟨by omega, by omega⟩)) ?_)
            rintro s17 v ⟨-, t_s17, z16, rfl, g_z16, xp_z16⟩
            rw [t_s17.nil]
            try rw [t_s17.nil] at xp_z16
            show xe none 147 58 [(0, .ref 256), (1, vi a), (2, vi b)] [vi z16] s0 0 0 _
            refine x_if_eq k147_58 (t := 65) rfl (by first | exact x_rbe e_z16 g_z16 rfl rfl | exact x_rb g_z16 rfl rfl | exact ⟨by omega, by omega⟩) (fun c18 => ?_) (fun c18 => ?_)
            · skip
              have nb : ∀ k, xup s0 z2 k b ≠ a := fun k hk => xp_z16.elim (fun q => by exfalso; omega) (fun q => q.2 ⟨by omega, k, hk⟩)
              refine x_A k147_65 (fun _ => rfl) ?_
              refine x_getR k147_66 (f := 5) rfl (q := 256) (n := 62) (kd := 15) ⟨by decide, rfl⟩ (q2 := 260) (by decide) rfl ?_
              refine x_bipush k147_69 (by decide +kernel) ?_
              refine x_A k147_71 (fun _ => rfl) ?_
              refine x_imul k147_72 ?_
              refine x_top (fun z19 e_z19 => ?_)
              refine x_A k147_73 (fun _ => rfl) ?_
              refine x_getI k147_74 (f := 0) rfl (q := 256) (n := 62) (kd := 15) ⟨by decide, rfl⟩ (by decide) rfl ?_
              refine x_rw (e_z2.symm) ?_
              refine x_iadd k147_77 ?_
              refine x_top (fun z20 e_z20 => ?_)
              refine x_iald k147_78 (q := 260) (n := 400) ⟨by decide, rfl⟩ (by decide) (by first | exact x_rbel e_z20 g_z20 rfl rfl | exact x_rbl g_z20 rfl rfl | exact ⟨by omega, by omega⟩) ?_
              refine x_top (fun z21 e_z21 => ?_)
              have g_z21 : (-1) ≤ s0 260 z20.toNat ∧ s0 260 z20.toNat ≤ 39 := hG0 260 z20.toNat
              refine x_istore_n k147_79 (ls' := [(3, vi z21), (0, .ref 256), (1, vi a), (2, vi b)]) (by decide) rfl ?_
              refine x_A k147_80 (fun _ => rfl) ?_
              refine x_A k147_81 (fun _ => rfl) ?_
              refine x_A k147_82 (fun _ => rfl) ?_
              refine x_callV k147_83 (y := 140) (n := 2) (w0 := 0) (w1 := 2) (as := [vi a, vi b]) (rest := []) (by decide +kernel) (q := 256) (nq := 62) (kq := 15) ⟨by decide, rfl⟩ rfl rfl rfl rfl (xe_mono (D_X11_hang_256 s0 hG0 a (by first | exact x_rb b_a rfl rfl | exact ⟨by omega, by omega⟩) b (by first | exact x_rb b_b rfl rfl | exact ⟨by omega, by omega⟩)) ?_)
              rintro s23 v ⟨hG_s23, t_s23, rfl, xp_z22⟩
              have f_s23 : FL [4352] s0 s23 := f0.tr t_s23 (by decide +kernel)
              have q24 : s23 256 1 = z1 := (t_s23 256 1 (show 4098 ∉ [4352] from by decide +kernel)).trans e_z1.symm
              have q25 : s23 256 0 = z2 := (t_s23 256 0 (show 4097 ∉ [4352] from by decide +kernel)).trans e_z2.symm
              show xe none 147 86 [(3, vi z21), (0, .ref 256), (1, vi a), (2, vi b)] [] s23 0 0 _
              have J_h : J s23 := J.hang i0_J hG0 (m := a) (p := b) ⟨by omega, by omega⟩ ⟨by omega, by omega⟩ (by rw [← show z2 = s0 256 0 by omega]; exact nb) t_s23 xp_z22
              refine x_A k147_86 (fun _ => rfl) ?_
              exact x_iret k147_87 rfl ⟨hG_s23, f_s23, z21, rfl, (by first | exact x_rbe e_z21 g_z21 rfl rfl | exact x_rb g_z21 rfl rfl | exact ⟨by omega, by omega⟩), (by unfold MvR; exact Or.inr (Or.inr ⟨by omega, ⟨by omega, fun ⟨k, hk⟩ => nb k (by rw [show z2 = s0 256 0 by omega]; exact hk)⟩, by rw [e_z21, show z20 = 10 * a + s0 256 0 by omega], xp_z22⟩)), J_h⟩
            · skip
              refine x_sipush k147_61 (by decide +kernel) ?_
              exact x_iret k147_64 rfl ⟨hG0, f0, (-1003), rfl, ⟨by decide, by decide⟩, (by unfold MvR; exact Or.inr (Or.inl ⟨by omega, fun w => xp_z16.elim (fun q => w.2 (by obtain ⟨k, hk⟩ := q.2.2; exact ⟨k, by rw [← show z2 = s0 256 0 by omega]; exact hk⟩)) (fun q => by exfalso; omega), rfl, rfl⟩)), i0_J⟩
          · rw [e_z13]
            show xe none 147 45 [(0, .ref 256), (1, vi a), (2, vi b)] [vi 0] s0 0 0 _
            refine x_if_eq k147_45 (t := 61) rfl ⟨by decide, by decide⟩ (fun c26 => ?_) (fun c26 => by exfalso; omega)
            refine x_sipush k147_61 (by decide +kernel) ?_
            exact x_iret k147_64 rfl ⟨hG0, f0, (-1003), rfl, ⟨by decide, by decide⟩, (by unfold MvR; exact Or.inr (Or.inl ⟨by omega, fun w => by obtain ⟨w1, -⟩ := w; omega, rfl, rfl⟩)), i0_J⟩
        · rw [e_z10]
          show xe none 147 33 [(0, .ref 256), (1, vi a), (2, vi b)] [vi 0] s0 0 0 _
          refine x_if_eq k147_33 (t := 61) rfl ⟨by decide, by decide⟩ (fun c27 => ?_) (fun c27 => by exfalso; omega)
          refine x_sipush k147_61 (by decide +kernel) ?_
          exact x_iret k147_64 rfl ⟨hG0, f0, (-1003), rfl, ⟨by decide, by decide⟩, (by unfold MvR; exact Or.inr (Or.inl ⟨by omega, fun w => by obtain ⟨w1, -⟩ := w; omega, rfl, rfl⟩)), i0_J⟩
    · rw [e_z6]
      show xe none 147 13 [(0, .ref 256), (1, vi a), (2, vi b)] [vi 0] s0 0 0 _
      refine x_if_ne k147_13 (t := 20) rfl ⟨by decide, by decide⟩ (fun c28 => by exfalso; omega) (fun c28 => ?_)
      refine x_sipush k147_16 (by decide +kernel) ?_
      exact x_iret k147_19 rfl ⟨hG0, f0, (-1001), rfl, ⟨by decide, by decide⟩, (by unfold MvR; exact Or.inl ⟨by omega, rfl, rfl⟩), i0_J⟩
  · rw [e_z3]
    show xe none 147 5 [(0, .ref 256), (1, vi a), (2, vi b)] [vi 0] s0 0 0 _
    refine x_if_eq k147_5 (t := 16) rfl ⟨by decide, by decide⟩ (fun c29 => ?_) (fun c29 => by exfalso; omega)
    refine x_sipush k147_16 (by decide +kernel) ?_
    exact x_iret k147_19 rfl ⟨hG0, f0, (-1001), rfl, ⟨by decide, by decide⟩, (by unfold MvR; exact Or.inl ⟨by omega, rfl, rfl⟩), i0_J⟩
set_option maxHeartbeats 8000000 in
theorem E_X6_byteAt_177 (s0 : xS) (hG0 : GI s0) (a : Int) (b_a : (-2147483648) ≤ a ∧ a ≤ 2147483647) : xe none 49 0 (lv_args 0 [.ref 177, vi a]) [] s0 0 0 (fun s' v => s' = s0 ∧ ∃ z, v = some (vi z) ∧ ((0 ≤ a ∧ a < s0 177 1 ∧ z = s0 178 a.toNat ∧ 0 ≤ z) ∨ (¬ (0 ≤ a ∧ a < s0 177 1) ∧ z = -1)) ∧ -1 ≤ z ∧ z ≤ 255) := by
  have f0 : FL [] s0 s0 := FL.rf
  show xe none 49 0 [(0, .ref 177), (1, vi a)] [] s0 0 0 _
  refine x_A k49_0 (fun _ => rfl) ?_
  refine x_if_lt k49_1 (t := 21) rfl (by first | exact x_rb b_a rfl rfl | exact ⟨by omega, by omega⟩) (fun c1 => ?_) (fun c1 => ?_)
  · skip
    refine x_A k49_21 (fun _ => rfl) ?_
    exact x_iret k49_22 rfl ⟨rfl, (-1), rfl, by omega⟩
  · skip
    refine x_A k49_4 (fun _ => rfl) ?_
    refine x_A k49_5 (fun _ => rfl) ?_
    refine x_getI k49_6 (f := 1) rfl (q := 177) (n := 7) (kd := 7) ⟨by decide, rfl⟩ (by decide) rfl ?_
    refine x_top (fun z2 e_z2 => ?_)
    have g_z2 : (0 : Int) ≤ s0 177 1 ∧ s0 177 1 ≤ 160 := hG0 177 1
    refine x_ic_ge k49_9 (t := 21) rfl (by first | exact x_rb b_a rfl rfl | exact ⟨by omega, by omega⟩) (by first | exact x_rbe e_z2 g_z2 rfl rfl | exact x_rb g_z2 rfl rfl | exact ⟨by omega, by omega⟩) (fun c3 => ?_) (fun c3 => ?_)
    · skip
      refine x_A k49_21 (fun _ => rfl) ?_
      exact x_iret k49_22 rfl ⟨rfl, (-1), rfl, by omega⟩
    · skip
      refine x_A k49_12 (fun _ => rfl) ?_
      refine x_getR k49_13 (f := 0) rfl (q := 177) (n := 7) (kd := 7) ⟨by decide, rfl⟩ (q2 := 178) (by decide) rfl ?_
      refine x_A k49_16 (fun _ => rfl) ?_
      refine x_iald k49_17 (q := 178) (n := 160) ⟨by decide, rfl⟩ (by decide) (by first | exact x_rbl b_a rfl rfl | exact ⟨by omega, by omega⟩) ?_
      refine x_top (fun z4 e_z4 => ?_)
      have g_z4 : (0 : Int) ≤ s0 178 a.toNat ∧ s0 178 a.toNat ≤ 255 := hG0 178 a.toNat
      refine x_goto k49_18 (t := 22) rfl ?_
      exact x_iret k49_22 rfl ⟨rfl, z4, rfl, by omega⟩
set_option maxHeartbeats 8000000 in
theorem E_X6_kindOf (s0 : xS) (hG0 : GI s0) (a : Int) (b_a : (-2147483648) ≤ a ∧ a ≤ 2147483647) : xe none 50 0 (lv_args 0 [vi a]) [] s0 0 0 (fun s' v => s' = s0 ∧ ∃ z, v = some (vi z) ∧ ((a = -1 ∧ z = 0) ∨ (a ≠ -1 ∧ (97 ≤ a ∧ a ≤ 122) ∧ z = 1) ∨ (a ≠ -1 ∧ (48 ≤ a ∧ a ≤ 57) ∧ z = 2) ∨ (a ≠ -1 ∧ ¬ (97 ≤ a ∧ a ≤ 122) ∧ ¬ (48 ≤ a ∧ a ≤ 57) ∧ z = 3)) ∧ 0 ≤ z ∧ z ≤ 3) := by
  have f0 : FL [] s0 s0 := FL.rf
  show xe none 50 0 [(0, vi a)] [] s0 0 0 _
  refine x_A k50_0 (fun _ => rfl) ?_
  refine x_A k50_1 (fun _ => rfl) ?_
  refine x_ic_ne k50_2 (t := 7) rfl (by first | exact x_rb b_a rfl rfl | exact ⟨by omega, by omega⟩) ⟨by decide, by decide⟩ (fun c1 => ?_) (fun c1 => ?_)
  · skip
    refine x_A k50_7 (fun _ => rfl) ?_
    refine x_bipush k50_8 (by decide +kernel) ?_
    refine x_ic_lt k50_10 (t := 21) rfl (by first | exact x_rb b_a rfl rfl | exact ⟨by omega, by omega⟩) ⟨by decide, by decide⟩ (fun c2 => ?_) (fun c2 => ?_)
    · skip
      refine x_A k50_21 (fun _ => rfl) ?_
      refine x_bipush k50_22 (by decide +kernel) ?_
      refine x_ic_lt k50_24 (t := 35) rfl (by first | exact x_rb b_a rfl rfl | exact ⟨by omega, by omega⟩) ⟨by decide, by decide⟩ (fun c3 => ?_) (fun c3 => ?_)
      · skip
        refine x_A k50_35 (fun _ => rfl) ?_
        exact x_iret k50_36 rfl ⟨rfl, 3, rfl, by omega⟩
      · skip
        refine x_A k50_27 (fun _ => rfl) ?_
        refine x_bipush k50_28 (by decide +kernel) ?_
        refine x_ic_gt k50_30 (t := 35) rfl (by first | exact x_rb b_a rfl rfl | exact ⟨by omega, by omega⟩) ⟨by decide, by decide⟩ (fun c4 => ?_) (fun c4 => ?_)
        · skip
          refine x_A k50_35 (fun _ => rfl) ?_
          exact x_iret k50_36 rfl ⟨rfl, 3, rfl, by omega⟩
        · skip
          refine x_A k50_33 (fun _ => rfl) ?_
          exact x_iret k50_34 rfl ⟨rfl, 2, rfl, by omega⟩
    · skip
      refine x_A k50_13 (fun _ => rfl) ?_
      refine x_bipush k50_14 (by decide +kernel) ?_
      refine x_ic_gt k50_16 (t := 21) rfl (by first | exact x_rb b_a rfl rfl | exact ⟨by omega, by omega⟩) ⟨by decide, by decide⟩ (fun c5 => ?_) (fun c5 => ?_)
      · skip
        refine x_A k50_21 (fun _ => rfl) ?_
        refine x_bipush k50_22 (by decide +kernel) ?_
        refine x_ic_lt k50_24 (t := 35) rfl (by first | exact x_rb b_a rfl rfl | exact ⟨by omega, by omega⟩) ⟨by decide, by decide⟩ (fun c6 => by exfalso; omega) (fun c6 => ?_)
        refine x_A k50_27 (fun _ => rfl) ?_
        refine x_bipush k50_28 (by decide +kernel) ?_
        refine x_ic_gt k50_30 (t := 35) rfl (by first | exact x_rb b_a rfl rfl | exact ⟨by omega, by omega⟩) ⟨by decide, by decide⟩ (fun c7 => ?_) (fun c7 => by exfalso; omega)
        refine x_A k50_35 (fun _ => rfl) ?_
        exact x_iret k50_36 rfl ⟨rfl, 3, rfl, by omega⟩
      · skip
        refine x_A k50_19 (fun _ => rfl) ?_
        exact x_iret k50_20 rfl ⟨rfl, 1, rfl, by omega⟩
  · skip
    refine x_A k50_5 (fun _ => rfl) ?_
    exact x_iret k50_6 rfl ⟨rfl, 0, rfl, by omega⟩
set_option maxHeartbeats 8000000 in
theorem E_X6_fail_177 (s0 : xS) (hG0 : GI s0) (a : Int) (b_a : 1 ≤ a ∧ a ≤ 5) (b : Int) (b_b : (-2147483648) ≤ b ∧ b ≤ 2147483647) : xe none 52 0 (lv_args 0 [.ref 177, vi a, vi b]) [] s0 0 0 (fun s' v => GI s' ∧ FL [1222, 1223] s0 s' ∧ v = none ∧ ((s0 177 5 ≠ 0 ∧ s' 177 5 = s0 177 5 ∧ s' 177 6 = s0 177 6) ∨ (s0 177 5 = 0 ∧ s' 177 5 = a ∧ s' 177 6 = b))) := by
  have f0 : FL [1222, 1223] s0 s0 := FL.rf
  show xe none 52 0 [(0, .ref 177), (1, vi a), (2, vi b)] [] s0 0 0 _
  refine x_A k52_0 (fun _ => rfl) ?_
  refine x_getI k52_1 (f := 5) rfl (q := 177) (n := 7) (kd := 7) ⟨by decide, rfl⟩ (by decide) rfl ?_
  refine x_top (fun z1 e_z1 => ?_)
  have g_z1 : (0 : Int) ≤ s0 177 5 ∧ s0 177 5 ≤ 5 := hG0 177 5
  refine x_if_eq k52_4 (t := 8) rfl (by first | exact x_rbe e_z1 g_z1 rfl rfl | exact x_rb g_z1 rfl rfl | exact ⟨by omega, by omega⟩) (fun c2 => ?_) (fun c2 => ?_)
  · skip
    refine x_A k52_8 (fun _ => rfl) ?_
    refine x_A k52_9 (fun _ => rfl) ?_
    refine x_putI k52_10 (f := 5) rfl (q := 177) (n := 7) (kd := 7) ⟨by decide, rfl⟩ rfl rfl rfl ?_
    refine x_nh (fun s3 e_s3 => ?_)
    have hG_s3 : GI s3 := by rw [e_s3]; exact hG0.up (show 0 ≤ a ∧ a ≤ 5 from (by first | exact x_rb b_a rfl rfl | exact ⟨by omega, by omega⟩))
    have f_s3 : FL [1222, 1223] s0 s3 := by rw [e_s3]; exact f0.up (show 1222 ∈ [1222, 1223] from by decide +kernel)
    have q4 : s3 177 5 = a := by rw [e_s3]; exact x_up_same
    refine x_A k52_13 (fun _ => rfl) ?_
    refine x_A k52_14 (fun _ => rfl) ?_
    refine x_putI k52_15 (f := 6) rfl (q := 177) (n := 7) (kd := 7) ⟨by decide, rfl⟩ rfl rfl rfl ?_
    refine x_nh (fun s5 e_s5 => ?_)
    have hG_s5 : GI s5 := by rw [e_s5]; exact hG_s3.up (show (-2147483648) ≤ b ∧ b ≤ 2147483647 from (by first | exact x_rb b_b rfl rfl | exact ⟨by omega, by omega⟩))
    have f_s5 : FL [1222, 1223] s0 s5 := by rw [e_s5]; exact f_s3.up (show 1223 ∈ [1222, 1223] from by decide +kernel)
    have q6 : s5 177 5 = a := by rw [e_s5, x_up_i (by decide)]; exact q4
    have q7 : s5 177 6 = b := by rw [e_s5]; exact x_up_same
    exact x_vret k52_18 rfl ⟨hG_s5, f_s5, rfl, by omega⟩
  · skip
    obtain ⟨z8, e_z8⟩ : ∃ z, z = s0 177 6 := ⟨_, rfl⟩
    have g_z8 : (-2147483648) ≤ s0 177 6 ∧ s0 177 6 ≤ 2147483647 := hG0 177 6
    exact x_vret k52_7 rfl ⟨hG0, f0, rfl, by omega⟩
set_option maxHeartbeats 8000000 in
theorem L_E_X6_advance_177_95 (s0 : xS) (pa : s0 177 4 ≤ s0 177 1)  : ∀ (n : Nat) (s : xS) (x1000 : Int) (x1001 : Int) (x1002 : Int) (x1003 : Int) (hG : GI s) (f : FL [1219, 1220, 1221] s0 s) (b_x1000 : 0 ≤ x1000 ∧ x1000 ≤ 160) (b_x1001 : 1 ≤ x1001 ∧ x1001 ≤ 2) (b_x1002 : 0 ≤ x1002 ∧ x1002 ≤ 160) (b_x1003 : 1 ≤ x1003 ∧ x1003 ≤ 161) (r_1002_1003 : x1002 ≤ x1003 + 0) (w_0 : x1000 = s0 177 1) (w_1 : 0 ≤ x1002 ∧ x1002 < x1000) (w_2 : x1002 < x1003 ∧ x1003 ≤ x1000) (w_3 : x1001 = 1 ∨ x1001 = 2) (w_4 : x1001 = kd (s0 178) (s0 177 1) x1002) (w_5 : sk (s0 178) (s0 177 1) (s0 177 4) = x1002) (w_6 : sk (s0 178) (s0 177 1) x1002 = x1002) (w_7 : te (s0 178) (s0 177 1) x1002 = rk (s0 178) (s0 177 1) x1001 x1003) (e_x1000 : x1000 = s 177 1) (e_x1001 : x1001 = s 177 2) (e_x1002 : x1002 = s 177 3) (e_x1003 : x1003 = s 177 4)  (hm : (161 - x1003) < (n : Int)), xe none 51 95 [(0, .ref 177)] [] s 0 0 (fun s' v => GI s' ∧ FL [1219, 1220, 1221] s0 s' ∧ v = none ∧ (TK s' (s0 178) (s0 177 1) (sk (s0 178) (s0 177 1) (s0 177 4)))) := by
  intro n
  induction n with
  | zero => intro s x1000 x1001 x1002 x1003 hG f b_x1000 b_x1001 b_x1002 b_x1003 r_1002_1003 w_0 w_1 w_2 w_3 w_4 w_5 w_6 w_7 e_x1000 e_x1001 e_x1002 e_x1003  hm; exfalso; omega
  | succ n ih =>
    intro s x1000 x1001 x1002 x1003 hG f b_x1000 b_x1001 b_x1002 b_x1003 r_1002_1003 w_0 w_1 w_2 w_3 w_4 w_5 w_6 w_7 e_x1000 e_x1001 e_x1002 e_x1003  hm
    refine x_A k51_95 (fun _ => rfl) ?_
    refine x_getI k51_96 (f := 4) rfl (q := 177) (n := 7) (kd := 7) ⟨by decide, rfl⟩ (by decide) rfl ?_
    refine x_rw (e_x1003.symm) ?_
    refine x_A k51_99 (fun _ => rfl) ?_
    refine x_getI k51_100 (f := 1) rfl (q := 177) (n := 7) (kd := 7) ⟨by decide, rfl⟩ (by decide) rfl ?_
    refine x_rw (e_x1000.symm) ?_
    refine x_ic_ge k51_103 (t := 137) rfl (by first | exact x_rb b_x1003 rfl rfl | exact ⟨by omega, by omega⟩) (by first | exact x_rb b_x1000 rfl rfl | exact ⟨by omega, by omega⟩) (fun c201 => ?_) (fun c201 => ?_)
    · skip
      exact x_vret k51_137 rfl ⟨hG, f, rfl, (by rw [w_5]; exact ⟨⟨by omega, by omega⟩, w_6, by omega, by omega, by rw [w_7, rk_n (by omega) (by omega)]; omega⟩)⟩
    · skip
      refine x_A k51_106 (fun _ => rfl) ?_
      refine x_A k51_107 (fun _ => rfl) ?_
      refine x_getI k51_108 (f := 4) rfl (q := 177) (n := 7) (kd := 7) ⟨by decide, rfl⟩ (by decide) rfl ?_
      refine x_rw (e_x1003.symm) ?_
      refine x_callV k51_111 (y := 49) (n := 1) (w0 := 0) (w1 := 1) (as := [vi x1003]) (rest := []) (by decide +kernel) (q := 177) (nq := 7) (kq := 7) ⟨by decide, rfl⟩ rfl rfl rfl rfl (xe_mono (E_X6_byteAt_177 s hG x1003 (by first | exact x_rb b_x1003 rfl rfl | exact ⟨by omega, by omega⟩)) ?_)
      rintro s203 v ⟨h_s203, z202, rfl, g_z202⟩
      rw [h_s203]
      show xe none 51 114 [(0, .ref 177)] [vi z202] s 0 0 _
      rw [(show s 178 = s0 178 from funext fun i => f 178 i (show 1280 ∉ [1219, 1220, 1221] from by decide +kernel))] at g_z202
      refine x_callS k51_114 (y := 50) (n := 1) (w0 := 0) (w1 := 1) (as := [vi z202]) (rest := []) (by decide +kernel) rfl rfl rfl rfl (xe_mono (E_X6_kindOf s hG z202 (by first | exact x_rbe e_z202 g_z202 rfl rfl | exact x_rb g_z202 rfl rfl | exact ⟨by omega, by omega⟩)) ?_)
      rintro s205 v ⟨h_s205, z204, rfl, g_z204⟩
      rw [h_s205]
      show xe none 51 117 [(0, .ref 177)] [vi z204] s 0 0 _
      refine x_A k51_117 (fun _ => rfl) ?_
      refine x_getI k51_118 (f := 2) rfl (q := 177) (n := 7) (kd := 7) ⟨by decide, rfl⟩ (by decide) rfl ?_
      refine x_rw (e_x1001.symm) ?_
      refine x_ic_ne k51_121 (t := 137) rfl (by first | exact x_rbe e_z204 g_z204 rfl rfl | exact x_rb g_z204 rfl rfl | exact ⟨by omega, by omega⟩) (by first | exact x_rb b_x1001 rfl rfl | exact ⟨by omega, by omega⟩) (fun c206 => ?_) (fun c206 => ?_)
      · skip
        exact x_vret k51_137 rfl ⟨hG, f, rfl, (by rw [w_5]; exact ⟨⟨by omega, by omega⟩, w_6, by omega, by omega, by rw [w_7, rk_n (by omega) (by omega)]; omega⟩)⟩
      · skip
        refine x_A k51_124 (fun _ => rfl) ?_
        refine x_A k51_125 (fun _ => rfl) ?_
        refine x_getI k51_126 (f := 4) rfl (q := 177) (n := 7) (kd := 7) ⟨by decide, rfl⟩ (by decide) rfl ?_
        refine x_rw (e_x1003.symm) ?_
        refine x_A k51_129 (fun _ => rfl) ?_
        refine x_iadd k51_130 ?_
        refine x_top (fun z207 e_z207 => ?_)
        refine x_putI k51_131 (f := 4) rfl (q := 177) (n := 7) (kd := 7) ⟨by decide, rfl⟩ rfl rfl rfl ?_
        refine x_nh (fun s208 e_s208 => ?_)
        have hG_s208 : GI s208 := by rw [e_s208]; exact hG.up (show 0 ≤ z207 ∧ z207 ≤ 160 from (by first | exact x_rbe e_z207 g_z207 rfl rfl | exact x_rb g_z207 rfl rfl | exact ⟨by omega, by omega⟩))
        have f_s208 : FL [1219, 1220, 1221] s0 s208 := by rw [e_s208]; exact f.up (show 1221 ∈ [1219, 1220, 1221] from by decide +kernel)
        have q209 : s208 177 1 = x1000 := by rw [e_s208, x_up_i (by decide)]; exact e_x1000.symm
        have q210 : s208 177 2 = x1001 := by rw [e_s208, x_up_i (by decide)]; exact e_x1001.symm
        have q211 : s208 177 3 = x1002 := by rw [e_s208, x_up_i (by decide)]; exact e_x1002.symm
        have q212 : s208 177 4 = z207 := by rw [e_s208]; exact x_up_same
        refine x_goto k51_134 (t := 95) rfl ?_
        refine x_ls (l := [(0, .ref 177)]) (show ([0] : List Nat).Nodup from by decide +kernel) ⟨rfl, trivial⟩ ?_
        exact ih s208 x1000 x1001 x1002 z207 hG_s208 f_s208 (by first | exact x_rb b_x1000 rfl rfl | exact ⟨by omega, by omega⟩) (by first | exact x_rb b_x1001 rfl rfl | exact ⟨by omega, by omega⟩) (by first | exact x_rb b_x1002 rfl rfl | exact ⟨by omega, by omega⟩) (by first | exact x_rbe e_z207 g_z207 rfl rfl | exact x_rb g_z207 rfl rfl | exact ⟨by omega, by omega⟩) (by omega) (by omega) (by omega) (by omega) (by omega) w_4 w_5 w_6 (by rw [show z207 = x1003 + 1 by omega]; exact w_7.trans (rk_y (by omega) (by omega))) (q209).symm (q210).symm (q211).symm (q212).symm  (by omega)
