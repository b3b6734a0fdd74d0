set_option maxHeartbeats 8000000 in
theorem E_X10_move_0 (s0 : xS) (hG0 : GI s0) (a : Int) (b_a : (-2147483648) ≤ a ∧ a ≤ 2147483647) (b : Int) (b_b : (-2147483648) ≤ b ∧ b ≤ 2147483647) (p_1_4 : 1 ≤ s0 1 4 ∧ s0 1 4 ≤ 40) (p_0_10 : 0 ≤ s0 0 10 ∧ s0 0 10 ≤ 9) : xe none 93 0 (lv_args 0 [.ref 0, vi a, vi b]) [] s0 0 0 (fun s' v => GI s' ∧ FL [384, 3276, 3277] s0 s' ∧ ∃ z, v = some (vi z) ∧ ((-1004) ≤ z ∧ z ≤ 39) ∧ (MvC s0 s' a b z)) := by
  have f0 : FL [384, 3276, 3277] s0 s0 := FL.rf
  show xe none 93 0 [(0, .ref 0), (1, vi a), (2, vi b)] [] s0 0 0 _
  obtain ⟨z1, e_z1⟩ : ∃ z, z = s0 1 4 := ⟨_, rfl⟩
  have g_z1 : (1 : Int) ≤ s0 1 4 ∧ s0 1 4 ≤ 40 := hG0 1 4
  obtain ⟨z2, e_z2⟩ : ∃ z, z = s0 0 10 := ⟨_, rfl⟩
  have g_z2 : (0 : Int) ≤ s0 0 10 ∧ s0 0 10 ≤ 9 := hG0 0 10
  refine x_A k93_0 (fun _ => rfl) ?_
  refine x_getR k93_1 (f := 0) rfl (q := 0) (n := 12) (kd := 3) ⟨by decide, rfl⟩ (q2 := 1) (by decide) rfl ?_
  refine x_A k93_4 (fun _ => rfl) ?_
  refine x_callV k93_5 (y := 59) (n := 1) (w0 := 0) (w1 := 1) (as := [vi a]) (rest := []) (by decide +kernel) (q := 1) (nq := 5) (kq := 4) ⟨by decide, rfl⟩ rfl rfl rfl rfl (xe_mono (C_X7_has_1 s0 hG0 a (by first | exact x_rb b_a rfl rfl | exact ⟨by omega, by omega⟩)) ?_)
  rintro s4 v ⟨h_s4, z3, rfl, hz_z3⟩
  rw [h_s4]
  rcases hz_z3 with ⟨c_z3, e_z3⟩ | ⟨c_z3, e_z3⟩
  · rw [e_z3]
    show xe none 93 8 [(0, .ref 0), (1, vi a), (2, vi b)] [vi 1] s0 0 0 _
    refine x_if_eq k93_8 (t := 22) rfl ⟨by decide, by decide⟩ (fun c5 => by exfalso; omega) (fun c5 => ?_)
    refine x_A k93_11 (fun _ => rfl) ?_
    refine x_getR k93_12 (f := 0) rfl (q := 0) (n := 12) (kd := 3) ⟨by decide, rfl⟩ (q2 := 1) (by decide) rfl ?_
    refine x_A k93_15 (fun _ => rfl) ?_
    refine x_callV k93_16 (y := 59) (n := 1) (w0 := 0) (w1 := 1) (as := [vi b]) (rest := []) (by decide +kernel) (q := 1) (nq := 5) (kq := 4) ⟨by decide, rfl⟩ rfl rfl rfl rfl (xe_mono (C_X7_has_1 s0 hG0 b (by first | exact x_rb b_b rfl rfl | exact ⟨by omega, by omega⟩)) ?_)
    rintro s7 v ⟨h_s7, z6, rfl, hz_z6⟩
    rw [h_s7]
    rcases hz_z6 with ⟨c_z6, e_z6⟩ | ⟨c_z6, e_z6⟩
    · rw [e_z6]
      show xe none 93 19 [(0, .ref 0), (1, vi a), (2, vi b)] [vi 1] s0 0 0 _
      refine x_if_ne k93_19 (t := 26) rfl ⟨by decide, by decide⟩ (fun c8 => ?_) (fun c8 => by exfalso; omega)
      refine x_A k93_26 (fun _ => rfl) ?_
      refine x_if_eq k93_27 (t := 60) rfl (by first | exact x_rb b_a rfl rfl | exact ⟨by omega, by omega⟩) (fun c9 => ?_) (fun c9 => ?_)
      · skip
        refine x_sipush k93_60 (by decide +kernel) ?_
        exact x_iret k93_63 rfl ⟨hG0, f0, (-1003), rfl, ⟨by decide, by decide⟩, (by unfold MvC; exact Or.inr (Or.inl ⟨by omega, fun w => by obtain ⟨w1, -⟩ := w; omega, rfl, fun _ _ _ _ => rfl⟩))⟩
      · skip
        refine x_A k93_30 (fun _ => rfl) ?_
        refine x_getR k93_31 (f := 0) rfl (q := 0) (n := 12) (kd := 3) ⟨by decide, rfl⟩ (q2 := 1) (by decide) rfl ?_
        refine x_A k93_34 (fun _ => rfl) ?_
        refine x_A k93_35 (fun _ => rfl) ?_
        refine x_getI k93_36 (f := 10) rfl (q := 0) (n := 12) (kd := 3) ⟨by decide, rfl⟩ (by decide) rfl ?_
        refine x_rw (e_z2.symm) ?_
        refine x_callV k93_39 (y := 64) (n := 2) (w0 := 0) (w1 := 2) (as := [vi a, vi z2]) (rest := []) (by decide +kernel) (q := 1) (nq := 5) (kq := 4) ⟨by decide, rfl⟩ rfl rfl rfl rfl (xe_mono (E_X7_isThere_1 s0 hG0 a (by first | exact x_rb b_a rfl rfl | exact ⟨by omega, by omega⟩) z2 (by first | exact x_rbe e_z2 g_z2 rfl rfl | exact x_rb g_z2 rfl rfl | exact ⟨by omega, by omega⟩)) ?_)
        rintro s11 v ⟨h_s11, z10, rfl, hz_z10⟩
        rw [h_s11]
        rcases hz_z10 with ⟨c_z10, e_z10, m_z10⟩ | ⟨e_z10, m_z10⟩
        · rw [e_z10]
          show xe none 93 42 [(0, .ref 0), (1, vi a), (2, vi b)] [vi 1] s0 0 0 _
          refine x_if_eq k93_42 (t := 60) rfl ⟨by decide, by decide⟩ (fun c12 => by exfalso; omega) (fun c12 => ?_)
          refine x_A k93_45 (fun _ => rfl) ?_
          refine x_getR k93_46 (f := 0) rfl (q := 0) (n := 12) (kd := 3) ⟨by decide, rfl⟩ (q2 := 1) (by decide) rfl ?_
          refine x_A k93_49 (fun _ => rfl) ?_
          refine x_A k93_50 (fun _ => rfl) ?_
          refine x_getI k93_51 (f := 10) rfl (q := 0) (n := 12) (kd := 3) ⟨by decide, rfl⟩ (by decide) rfl ?_
          refine x_rw (e_z2.symm) ?_
          refine x_callV k93_54 (y := 64) (n := 2) (w0 := 0) (w1 := 2) (as := [vi b, vi z2]) (rest := []) (by decide +kernel) (q := 1) (nq := 5) (kq := 4) ⟨by decide, rfl⟩ rfl rfl rfl rfl (xe_mono (E_X7_isThere_1 s0 hG0 b (by first | exact x_rb b_b rfl rfl | exact ⟨by omega, by omega⟩) z2 (by first | exact x_rbe e_z2 g_z2 rfl rfl | exact x_rb g_z2 rfl rfl | exact ⟨by omega, by omega⟩)) ?_)
          rintro s14 v ⟨h_s14, z13, rfl, hz_z13⟩
          rw [h_s14]
          rcases hz_z13 with ⟨c_z13, e_z13, m_z13⟩ | ⟨e_z13, m_z13⟩
          · rw [e_z13]
            show xe none 93 57 [(0, .ref 0), (1, vi a), (2, vi b)] [vi 1] s0 0 0 _
            refine x_if_ne k93_57 (t := 64) rfl ⟨by decide, by decide⟩ (fun c15 => ?_) (fun c15 => by exfalso; omega)
            refine x_A k93_64 (fun _ => rfl) ?_
            refine x_getR k93_65 (f := 0) rfl (q := 0) (n := 12) (kd := 3) ⟨by decide, rfl⟩ (q2 := 1) (by decide) rfl ?_
            refine x_A k93_68 (fun _ => rfl) ?_
            refine x_A k93_69 (fun _ => rfl) ?_
            refine x_A k93_70 (fun _ => rfl) ?_
            refine x_getI k93_71 (f := 10) rfl (q := 0) (n := 12) (kd := 3) ⟨by decide, rfl⟩ (by decide) rfl ?_
            refine x_rw (e_z2.symm) ?_
            refine x_callV k93_74 (y := 66) (n := 3) (w0 := 0) (w1 := 3) (as := [vi b, vi a, vi z2]) (rest := []) (by decide +kernel) (q := 1) (nq := 5) (kq := 4) ⟨by decide, rfl⟩ rfl rfl rfl rfl (xe_mono (E_X7_isBelow_1 s0 hG0 b (by first | exact x_rb b_b rfl rfl | exact ⟨by omega, by omega⟩) a (by first | exact x_rb b_a rfl rfl | exact ⟨by omega, by omega⟩) z2 (by first | exact x_rbe e_z2 g_z2 rfl rfl | exact x_rb g_z2 rfl rfl | exact ⟨by omega, by omega⟩)) ?_)
            rintro s17 v ⟨-, t_s17, z16, rfl, g_z16, xp_z16⟩
            rw [t_s17.nil]
            try rw [t_s17.nil] at xp_z16
            show xe none 93 77 [(0, .ref 0), (1, vi a), (2, vi b)] [vi z16] s0 0 0 _
            refine x_if_eq k93_77 (t := 84) rfl (by first | exact x_rbe e_z16 g_z16 rfl rfl | exact x_rb g_z16 rfl rfl | exact ⟨by omega, by omega⟩) (fun c18 => ?_) (fun c18 => ?_)
            · skip
              refine x_A k93_84 (fun _ => rfl) ?_
              refine x_getR k93_85 (f := 9) rfl (q := 0) (n := 12) (kd := 3) ⟨by decide, rfl⟩ (q2 := 243) (by decide) rfl ?_
              refine x_callV k93_88 (y := 73) (n := 0) (w0 := 0) (w1 := 0) (as := []) (rest := []) (by decide +kernel) (q := 243) (nq := 13) (kq := 13) ⟨by decide, rfl⟩ rfl rfl rfl rfl (xe_mono (C_X8_forget_243 s0 hG0) ?_)
              rintro s20 v ⟨hG_s20, t_s20, rfl⟩
              have f_s20 : FL [384, 3276, 3277] s0 s20 := f0.tr t_s20 (by decide +kernel)
              have q21 : s20 1 4 = z1 := (t_s20 1 4 (show 69 ∉ [3276, 3277] from by decide +kernel)).trans e_z1.symm
              have q22 : s20 0 10 = z2 := (t_s20 0 10 (show 11 ∉ [3276, 3277] from by decide +kernel)).trans e_z2.symm
              show xe none 93 91 [(0, .ref 0), (1, vi a), (2, vi b)] [] s20 0 0 _
              have FR := rows40 t_s20 (by decide)
              refine x_A k93_91 (fun _ => rfl) ?_
              refine x_getR k93_92 (f := 0) rfl (q := 0) (n := 12) (kd := 3) ⟨by decide, rfl⟩ (q2 := 1) (by decide) rfl ?_
              refine x_A k93_95 (fun _ => rfl) ?_
              refine x_A k93_96 (fun _ => rfl) ?_
              refine x_getI k93_97 (f := 10) rfl (q := 0) (n := 12) (kd := 3) ⟨by decide, rfl⟩ (by decide) rfl ?_
              refine x_rw (q22) ?_
              refine x_callV k93_100 (y := 62) (n := 2) (w0 := 0) (w1 := 2) (as := [vi a, vi z2]) (rest := []) (by decide +kernel) (q := 1) (nq := 5) (kq := 4) ⟨by decide, rfl⟩ rfl rfl rfl rfl (xe_mono (E_X7_parentIn_1 s20 hG_s20 a (by first | exact x_rb b_a rfl rfl | exact ⟨by omega, by omega⟩) z2 (by first | exact x_rbe e_z2 g_z2 rfl rfl | exact x_rb g_z2 rfl rfl | exact ⟨by omega, by omega⟩)) ?_)
              rintro s24 v ⟨-, t_s24, z23, rfl, g_z23, xp_z23⟩
              rw [t_s24.nil]
              try rw [t_s24.nil] at xp_z23
              show xe none 93 103 [(0, .ref 0), (1, vi a), (2, vi b)] [vi z23] s20 0 0 _
              refine x_istore_n k93_103 (ls' := [(3, vi z23), (0, .ref 0), (1, vi a), (2, vi b)]) (by decide) rfl ?_
              refine x_A k93_104 (fun _ => rfl) ?_
              refine x_getR k93_105 (f := 0) rfl (q := 0) (n := 12) (kd := 3) ⟨by decide, rfl⟩ (q2 := 1) (by decide) rfl ?_
              refine x_A k93_108 (fun _ => rfl) ?_
              refine x_A k93_109 (fun _ => rfl) ?_
              refine x_A k93_110 (fun _ => rfl) ?_
              refine x_getI k93_111 (f := 10) rfl (q := 0) (n := 12) (kd := 3) ⟨by decide, rfl⟩ (by decide) rfl ?_
              refine x_rw (q22) ?_
              refine x_callV k93_114 (y := 61) (n := 3) (w0 := 0) (w1 := 3) (as := [vi a, vi b, vi z2]) (rest := []) (by decide +kernel) (q := 1) (nq := 5) (kq := 4) ⟨by decide, rfl⟩ rfl rfl rfl rfl (xe_mono (E_X7_setParent_1 s20 hG_s20 a (by first | exact x_rb b_a rfl rfl | exact ⟨by omega, by omega⟩) b (by first | exact x_rb b_b rfl rfl | exact ⟨by omega, by omega⟩) z2 (by first | exact x_rbe e_z2 g_z2 rfl rfl | exact x_rb g_z2 rfl rfl | exact ⟨by omega, by omega⟩) ⟨by omega, by omega⟩) ?_)
              rintro s26 v ⟨hG_s26, t_s26, rfl, xp_z25⟩
              have f_s26 : FL [384, 3276, 3277] s0 s26 := f_s20.tr t_s26 (by decide +kernel)
              have q27 : s26 1 4 = z1 := (t_s26 1 4 (show 69 ∉ [384] from by decide +kernel)).trans q21
              have q28 : s26 0 10 = z2 := (t_s26 0 10 (show 11 ∉ [384] from by decide +kernel)).trans q22
              show xe none 93 117 [(3, vi z23), (0, .ref 0), (1, vi a), (2, vi b)] [] s26 0 0 _
              refine x_A k93_117 (fun _ => rfl) ?_
              exact x_iret k93_118 rfl ⟨hG_s26, f_s26, z23, rfl, (by first | exact x_rbe e_z23 g_z23 rfl rfl | exact x_rb g_z23 rfl rfl | exact ⟨by omega, by omega⟩), (by unfold MvC; exact xp_z25.elim (fun u => by exfalso; omega) (fun u => Or.inr (Or.inr ⟨by omega, ⟨by omega, fun w => xp_z16.elim (fun q => by exfalso; omega) (fun q => q.2 ⟨by omega, by rw [show z2 = s0 0 10 by omega]; exact w⟩)⟩, by rw [xp_z23]; unfold parC; rw [if_pos (by omega), FR _ _ (by omega) (by omega), show z2 = s0 0 10 by omega], fun r j h1 h2 => by rw [u.2 r j h1 h2, FR r j h1 h2, show z2 = s0 0 10 by omega]⟩)))⟩
            · skip
              refine x_sipush k93_80 (by decide +kernel) ?_
              exact x_iret k93_83 rfl ⟨hG0, f0, (-1003), rfl, ⟨by decide, by decide⟩, (by unfold MvC; exact Or.inr (Or.inl ⟨by omega, fun w => xp_z16.elim (fun q => w.2 (by have q2 := q.2.2; rw [show z2 = s0 0 10 by omega] at q2; exact q2)) (fun q => by exfalso; omega), rfl, fun _ _ _ _ => rfl⟩))⟩
          · rw [e_z13]
            show xe none 93 57 [(0, .ref 0), (1, vi a), (2, vi b)] [vi 0] s0 0 0 _
            refine x_if_ne k93_57 (t := 64) rfl ⟨by decide, by decide⟩ (fun c29 => by exfalso; omega) (fun c29 => ?_)
            refine x_sipush k93_60 (by decide +kernel) ?_
            exact x_iret k93_63 rfl ⟨hG0, f0, (-1003), rfl, ⟨by decide, by decide⟩, (by unfold MvC; exact Or.inr (Or.inl ⟨by omega, fun w => by obtain ⟨w1, -⟩ := w; omega, rfl, fun _ _ _ _ => rfl⟩))⟩
        · rw [e_z10]
          show xe none 93 42 [(0, .ref 0), (1, vi a), (2, vi b)] [vi 0] s0 0 0 _
          refine x_if_eq k93_42 (t := 60) rfl ⟨by decide, by decide⟩ (fun c30 => ?_) (fun c30 => by exfalso; omega)
          refine x_sipush k93_60 (by decide +kernel) ?_
          exact x_iret k93_63 rfl ⟨hG0, f0, (-1003), rfl, ⟨by decide, by decide⟩, (by unfold MvC; exact Or.inr (Or.inl ⟨by omega, fun w => by obtain ⟨w1, -⟩ := w; omega, rfl, fun _ _ _ _ => rfl⟩))⟩
    · rw [e_z6]
      show xe none 93 19 [(0, .ref 0), (1, vi a), (2, vi b)] [vi 0] s0 0 0 _
      refine x_if_ne k93_19 (t := 26) rfl ⟨by decide, by decide⟩ (fun c31 => by exfalso; omega) (fun c31 => ?_)
      refine x_sipush k93_22 (by decide +kernel) ?_
      exact x_iret k93_25 rfl ⟨hG0, f0, (-1001), rfl, ⟨by decide, by decide⟩, (by unfold MvC; exact Or.inl ⟨by omega, rfl, fun _ _ _ _ => rfl⟩)⟩
  · rw [e_z3]
    show xe none 93 8 [(0, .ref 0), (1, vi a), (2, vi b)] [vi 0] s0 0 0 _
    refine x_if_eq k93_8 (t := 22) rfl ⟨by decide, by decide⟩ (fun c32 => ?_) (fun c32 => by exfalso; omega)
    refine x_sipush k93_22 (by decide +kernel) ?_
    exact x_iret k93_25 rfl ⟨hG0, f0, (-1001), rfl, ⟨by decide, by decide⟩, (by unfold MvC; exact Or.inl ⟨by omega, rfl, fun _ _ _ _ => rfl⟩)⟩
set_option maxHeartbeats 8000000 in
theorem E_X11_move_256 (s0 : xS) (hG0 : GI s0) (a : Int) (b_a : (-2147483648) ≤ a ∧ a ≤ 2147483647) (b : Int) (b_b : (-2147483648) ≤ b ∧ b ≤ 2147483647) (p_256_1 : 1 ≤ s0 256 1 ∧ s0 256 1 ≤ 40) (p_256_0 : 0 ≤ s0 256 0 ∧ s0 256 0 ≤ 9) (i0_J : J s0) : xe none 147 0 (lv_args 0 [.ref 256, vi a, vi b]) [] s0 0 0 (fun s' v => GI s' ∧ FL [4352] s0 s' ∧ ∃ z, v = some (vi z) ∧ ((-1004) ≤ z ∧ z ≤ 39) ∧ (MvR s0 s' a b z) ∧ J s') := by
  have f0 : FL [4352] s0 s0 := FL.rf
  show xe none 147 0 [(0, .ref 256), (1, vi a), (2, vi b)] [] s0 0 0 _
  obtain ⟨z1, e_z1⟩ : ∃ z, z = s0 256 1 := ⟨_, rfl⟩
  have g_z1 : (1 : Int) ≤ s0 256 1 ∧ s0 256 1 ≤ 40 := hG0 256 1
  obtain ⟨z2, e_z2⟩ : ∃ z, z = s0 256 0 := ⟨_, rfl⟩
  have g_z2 : (0 : Int) ≤ s0 256 0 ∧ s0 256 0 ≤ 9 := hG0 256 0
  refine x_A k147_0 (fun _ => rfl) ?_
  refine x_A k147_1 (fun _ => rfl) ?_
  refine x_callV k147_2 (y := 137) (n := 1) (w0 := 0) (w1 := 1) (as := [vi a]) (rest := []) (by decide +kernel) (q := 256) (nq := 62) (kq := 15) ⟨by decide, rfl⟩ rfl rfl rfl rfl (xe_mono (C_X11_isMark_256 s0 hG0 a (by first | exact x_rb b_a rfl rfl | exact ⟨by omega, by omega⟩)) ?_)
  rintro s4 v ⟨h_s4, z3, rfl, hz_z3⟩
  rw [h_s4]
  rcases hz_z3 with ⟨c_z3, e_z3⟩ | ⟨c_z3, e_z3⟩
  · rw [e_z3]
    show xe none 147 5 [(0, .ref 256), (1, vi a), (2, vi b)] [vi 1] s0 0 0 _
    refine x_if_eq k147_5 (t := 16) rfl ⟨by decide, by decide⟩ (fun c5 => by exfalso; omega) (fun c5 => ?_)
    refine x_A k147_8 (fun _ => rfl) ?_
    refine x_A k147_9 (fun _ => rfl) ?_
    refine x_callV k147_10 (y := 137) (n := 1) (w0 := 0) (w1 := 1) (as := [vi b]) (rest := []) (by decide +kernel) (q := 256) (nq := 62) (kq := 15) ⟨by decide, rfl⟩ rfl rfl rfl rfl (xe_mono (C_X11_isMark_256 s0 hG0 b (by first | exact x_rb b_b rfl rfl | exact ⟨by omega, by omega⟩)) ?_)
    rintro s7 v ⟨h_s7, z6, rfl, hz_z6⟩
    rw [h_s7]
    rcases hz_z6 with ⟨c_z6, e_z6⟩ | ⟨c_z6, e_z6⟩
    · rw [e_z6]
      show xe none 147 13 [(0, .ref 256), (1, vi a), (2, vi b)] [vi 1] s0 0 0 _
      refine x_if_ne k147_13 (t := 20) rfl ⟨by decide, by decide⟩ (fun c8 => ?_) (fun c8 => by exfalso; omega)
      refine x_A k147_20 (fun _ => rfl) ?_
      refine x_if_eq k147_21 (t := 61) rfl (by first | exact x_rb b_a rfl rfl | exact ⟨by omega, by omega⟩) (fun c9 => ?_) (fun c9 => ?_)
      · skip
        refine x_sipush k147_61 (by decide +kernel) ?_
        exact x_iret k147_64 rfl ⟨hG0, f0, (-1003), rfl, ⟨by decide, by decide⟩, (by unfold MvR; exact Or.inr (Or.inl ⟨by omega, fun w => by obtain ⟨w1, -⟩ := w; omega, rfl, rfl⟩)), i0_J⟩
      · skip
        refine x_A k147_24 (fun _ => rfl) ?_
        refine x_A k147_25 (fun _ => rfl) ?_
        refine x_A k147_26 (fun _ => rfl) ?_
        refine x_getI k147_27 (f := 0) rfl (q := 256) (n := 62) (kd := 15) ⟨by decide, rfl⟩ (by decide) rfl ?_
        refine x_rw (e_z2.symm) ?_
        refine x_callV k147_30 (y := 142) (n := 2) (w0 := 0) (w1 := 2) (as := [vi a, vi z2]) (rest := []) (by decide +kernel) (q := 256) (nq := 62) (kq := 15) ⟨by decide, rfl⟩ rfl rfl rfl rfl (xe_mono (C_X11_isThere_256 s0 hG0 a (by first | exact x_rb b_a rfl rfl | exact ⟨by omega, by omega⟩) z2 (by first | exact x_rbe e_z2 g_z2 rfl rfl | exact x_rb g_z2 rfl rfl | exact ⟨by omega, by omega⟩)) ?_)
        rintro s11 v ⟨h_s11, z10, rfl, hz_z10⟩
        rw [h_s11]
        rcases hz_z10 with ⟨c_z10, e_z10, m_z10⟩ | ⟨e_z10, m_z10⟩
        · rw [e_z10]
          show xe none 147 33 [(0, .ref 256), (1, vi a), (2, vi b)] [vi 1] s0 0 0 _
          refine x_if_eq k147_33 (t := 61) rfl ⟨by decide, by decide⟩ (fun c12 => by exfalso; omega) (fun c12 => ?_)
          refine x_A k147_36 (fun _ => rfl) ?_
          refine x_A k147_37 (fun _ => rfl) ?_
          refine x_A k147_38 (fun _ => rfl) ?_
          refine x_getI k147_39 (f := 0) rfl (q := 256) (n := 62) (kd := 15) ⟨by decide, rfl⟩ (by decide) rfl ?_
          refine x_rw (e_z2.symm) ?_
          refine x_callV k147_42 (y := 142) (n := 2) (w0 := 0) (w1 := 2) (as := [vi b, vi z2]) (rest := []) (by decide +kernel) (q := 256) (nq := 62) (kq := 15) ⟨by decide, rfl⟩ rfl rfl rfl rfl (xe_mono (C_X11_isThere_256 s0 hG0 b (by first | exact x_rb b_b rfl rfl | exact ⟨by omega, by omega⟩) z2 (by first | exact x_rbe e_z2 g_z2 rfl rfl | exact x_rb g_z2 rfl rfl | exact ⟨by omega, by omega⟩)) ?_)
          rintro s14 v ⟨h_s14, z13, rfl, hz_z13⟩
          rw [h_s14]
          rcases hz_z13 with ⟨c_z13, e_z13, m_z13⟩ | ⟨e_z13, m_z13⟩
          · rw [e_z13]
            show xe none 147 45 [(0, .ref 256), (1, vi a), (2, vi b)] [vi 1] s0 0 0 _
            refine x_if_eq k147_45 (t := 61) rfl ⟨by decide, by decide⟩ (fun c15 => by exfalso; omega) (fun c15 => ?_)
            refine x_A k147_48 (fun _ => rfl) ?_
            refine x_A k147_49 (fun _ => rfl) ?_
            refine x_A k147_50 (fun _ => rfl) ?_
            refine x_A k147_51 (fun _ => rfl) ?_
            refine x_getI k147_52 (f := 0) rfl (q := 256) (n := 62) (kd := 15) ⟨by decide, rfl⟩ (by decide) rfl ?_
            refine x_rw (e_z2.symm) ?_
            refine x_callV k147_55 (y := 143) (n := 3) (w0 := 0) (w1 := 3) (as := [vi b, vi a, vi z2]) (rest := []) (by decide +kernel) (q := 256) (nq := 62) (kq := 15) ⟨by decide, rfl⟩ rfl rfl rfl rfl (xe_mono (E_X11_isBelow_256 s0 hG0 i0_J b (by first | exact x_rb b_b rfl rfl | exact ⟨by omega, by omega⟩) a (by first | exact x_rb b_a rfl rfl | exact ⟨by omega, by omega⟩) z2 (by first | exact x_rbe e_z2 g_z2 rfl rfl | exact x_rb g_z2 rfl rfl | exact ⟨by omega, by omega⟩)) ?_)
            rintro s17 v ⟨-, t_s17, z16, rfl, g_z16, xp_z16⟩
            rw [t_s17.nil]
            try rw [t_s17.nil] at xp_z16
            show xe none 147 58 [(0, .ref 256), (1, vi a), (2, vi b)] [vi z16] s0 0 0 _
            refine x_if_eq k147_58 (t := 65) rfl (by first | exact x_rbe e_z16 g_z16 rfl rfl | exact x_rb g_z16 rfl rfl | exact ⟨by omega, by omega⟩) (fun c18 => ?_) (fun c18 => ?_)
            · skip
              have nb : ∀ k, xup s0 z2 k b ≠ a := fun k hk => xp_z16.elim (fun q => by exfalso; omega) (fun q => q.2 ⟨by omega, k, hk⟩)
              refine x_A k147_65 (fun _ => rfl) ?_
              refine x_getR k147_66 (f := 5) rfl (q := 256) (n := 62) (kd := 15) ⟨by decide, rfl⟩ (q2 := 260) (by decide) rfl ?_
              refine x_bipush k147_69 (by decide +kernel) ?_
              refine x_A k147_71 (fun _ => rfl) ?_
              refine x_imul k147_72 ?_
              refine x_top (fun z19 e_z19 => ?_)
              refine x_A k147_73 (fun _ => rfl) ?_
              refine x_getI k147_74 (f := 0) rfl (q := 256) (n := 62) (kd := 15) ⟨by decide, rfl⟩ (by decide) rfl ?_
              refine x_rw (e_z2.symm) ?_
              refine x_iadd k147_77 ?_
              refine x_top (fun z20 e_z20 => ?_)
              refine x_iald k147_78 (q := 260) (n := 400) ⟨by decide, rfl⟩ (by decide) (by first | exact x_rbel e_z20 g_z20 rfl rfl | exact x_rbl g_z20 rfl rfl | exact ⟨by omega, by omega⟩) ?_
              refine x_top (fun z21 e_z21 => ?_)
              have g_z21 : (-1) ≤ s0 260 z20.toNat ∧ s0 260 z20.toNat ≤ 39 := hG0 260 z20.toNat
              refine x_istore_n k147_79 (ls' := [(3, vi z21), (0, .ref 256), (1, vi a), (2, vi b)]) (by decide) rfl ?_
              refine x_A k147_80 (fun _ => rfl) ?_
              refine x_A k147_81 (fun _ => rfl) ?_
              refine x_A k147_82 (fun _ => rfl) ?_
              refine x_callV k147_83 (y := 140) (n := 2) (w0 := 0) (w1 := 2) (as := [vi a, vi b]) (rest := []) (by decide +kernel) (q := 256) (nq := 62) (kq := 15) ⟨by decide, rfl⟩ rfl rfl rfl rfl (xe_mono (D_X11_hang_256 s0 hG0 a (by first | exact x_rb b_a rfl rfl | exact ⟨by omega, by omega⟩) b (by first | exact x_rb b_b rfl rfl | exact ⟨by omega, by omega⟩)) ?_)
              rintro s23 v ⟨hG_s23, t_s23, rfl, xp_z22⟩
              have f_s23 : FL [4352] s0 s23 := f0.tr t_s23 (by decide +kernel)
              have q24 : s23 256 1 = z1 := (t_s23 256 1 (show 4098 ∉ [4352] from by decide +kernel)).trans e_z1.symm
              have q25 : s23 256 0 = z2 := (t_s23 256 0 (show 4097 ∉ [4352] from by decide +kernel)).trans e_z2.symm
              show xe none 147 86 [(3, vi z21), (0, .ref 256), (1, vi a), (2, vi b)] [] s23 0 0 _
              have J_h : J s23 := J.hang i0_J hG0 (m := a) (p := b) ⟨by omega, by omega⟩ ⟨by omega, by omega⟩ (by rw [← show z2 = s0 256 0 by omega]; exact nb) t_s23 xp_z22
              refine x_A k147_86 (fun _ => rfl) ?_
              exact x_iret k147_87 rfl ⟨hG_s23, f_s23, z21, rfl, (by first | exact x_rbe e_z21 g_z21 rfl rfl | exact x_rb g_z21 rfl rfl | exact ⟨by omega, by omega⟩), (by unfold MvR; exact Or.inr (Or.inr ⟨by omega, ⟨by omega, fun ⟨k, hk⟩ => nb k (by rw [show z2 = s0 256 0 by omega]; exact hk)⟩, by rw [e_z21, show z20 = 10 * a + s0 256 0 by omega], xp_z22⟩)), J_h⟩
            · skip
              refine x_sipush k147_61 (by decide +kernel) ?_
              exact x_iret k147_64 rfl ⟨hG0, f0, (-1003), rfl, ⟨by decide, by decide⟩, (by unfold MvR; exact Or.inr (Or.inl ⟨by omega, fun w => xp_z16.elim (fun q => w.2 (by obtain ⟨k, hk⟩ := q.2.2; exact ⟨k, by rw [← show z2 = s0 256 0 by omega]; exact hk⟩)) (fun q => by exfalso; omega), rfl, rfl⟩)), i0_J⟩
          · rw [e_z13]
            show xe none 147 45 [(0, .ref 256), (1, vi a), (2, vi b)] [vi 0] s0 0 0 _
            refine x_if_eq k147_45 (t := 61) rfl ⟨by decide, by decide⟩ (fun c26 => ?_) (fun c26 => by exfalso; omega)
            refine x_sipush k147_61 (by decide +kernel) ?_
            exact x_iret k147_64 rfl ⟨hG0, f0, (-1003), rfl, ⟨by decide, by decide⟩, (by unfold MvR; exact Or.inr (Or.inl ⟨by omega, fun w => by obtain ⟨w1, -⟩ := w; omega, rfl, rfl⟩)), i0_J⟩
        · rw [e_z10]
          show xe none 147 33 [(0, .ref 256), (1, vi a), (2, vi b)] [vi 0] s0 0 0 _
          refine x_if_eq k147_33 (t := 61) rfl ⟨by decide, by decide⟩ (fun c27 => ?_) (fun c27 => by exfalso; omega)
          refine x_sipush k147_61 (by decide +kernel) ?_
          exact x_iret k147_64 rfl ⟨hG0, f0, (-1003), rfl, ⟨by decide, by decide⟩, (by unfold MvR; exact Or.inr (Or.inl ⟨by omega, fun w => by obtain ⟨w1, -⟩ := w; omega, rfl, rfl⟩)), i0_J⟩
    · rw [e_z6]
      show xe none 147 13 [(0, .ref 256), (1, vi a), (2, vi b)] [vi 0] s0 0 0 _
      refine x_if_ne k147_13 (t := 20) rfl ⟨by decide, by decide⟩ (fun c28 => by exfalso; omega) (fun c28 => ?_)
      refine x_sipush k147_16 (by decide +kernel) ?_
      exact x_iret k147_19 rfl ⟨hG0, f0, (-1001), rfl, ⟨by decide, by decide⟩, (by unfold MvR; exact Or.inl ⟨by omega, rfl, rfl⟩), i0_J⟩
  · rw [e_z3]
    show xe none 147 5 [(0, .ref 256), (1, vi a), (2, vi b)] [vi 0] s0 0 0 _
    refine x_if_eq k147_5 (t := 16) rfl ⟨by decide, by decide⟩ (fun c29 => ?_) (fun c29 => by exfalso; omega)
    refine x_sipush k147_16 (by decide +kernel) ?_
    exact x_iret k147_19 rfl ⟨hG0, f0, (-1001), rfl, ⟨by decide, by decide⟩, (by unfold MvR; exact Or.inl ⟨by omega, rfl, rfl⟩), i0_J⟩
set_option maxHeartbeats 8000000 in
theorem E_J13_bitCount_95d88 (s0 : xS) (hG0 : GI s0) (a : Int) (b_a : in64 a) : xe none 219 0 (lv_args 0 [vj a]) [] s0 0 0 (fun s' v => GI s' ∧ FL [] s0 s' ∧ ∃ z, v = some (vi z) ∧ (0 ≤ z ∧ z ≤ 127) ∧ (z = ctp (fun k => bt a k = true) 64)) := by
  have f0 : FL [] s0 s0 := FL.rf
  show xe none 219 0 [(0, vj a)] [] s0 0 0 _
  refine x_A k219_0 (fun _ => rfl) ?_
  refine x_A k219_1 (fun _ => rfl) ?_
  refine x_A k219_2 (fun _ => rfl) ?_
  refine x_lushr_u k219_3 ⟨by omega, by omega⟩ (fun z1 b_z1 u_z1 => ?_)
  refine x_ldc2 k219_4 (z := 6148914691236517205) rfl (by decide +kernel) ?_
  refine x_land_u k219_7 (fun z2 b_z2 u_z2 => ?_)
  refine x_lsub_u k219_8 (fun z3 b_z3 u_z3 => ?_)
  refine x_lstore_n k219_9 (ls' := [(0, vj z3)]) (by decide) rfl ?_
  refine x_A k219_10 (fun _ => rfl) ?_
  refine x_ldc2 k219_11 (z := 3689348814741910323) rfl (by decide +kernel) ?_
  refine x_land_u k219_14 (fun z4 b_z4 u_z4 => ?_)
  refine x_A k219_15 (fun _ => rfl) ?_
  refine x_A k219_16 (fun _ => rfl) ?_
  refine x_lushr_u k219_17 ⟨by omega, by omega⟩ (fun z5 b_z5 u_z5 => ?_)
  refine x_ldc2 k219_18 (z := 3689348814741910323) rfl (by decide +kernel) ?_
  refine x_land_u k219_21 (fun z6 b_z6 u_z6 => ?_)
  refine x_ladd_u k219_22 (fun z7 b_z7 u_z7 => ?_)
  refine x_lstore_n k219_23 (ls' := [(0, vj z7)]) (by decide) rfl ?_
  refine x_A k219_24 (fun _ => rfl) ?_
  refine x_A k219_25 (fun _ => rfl) ?_
  refine x_A k219_26 (fun _ => rfl) ?_
  refine x_lushr_u k219_27 ⟨by omega, by omega⟩ (fun z8 b_z8 u_z8 => ?_)
  refine x_ladd_u k219_28 (fun z9 b_z9 u_z9 => ?_)
  refine x_ldc2 k219_29 (z := 1085102592571150095) rfl (by decide +kernel) ?_
  refine x_land_u k219_32 (fun z10 b_z10 u_z10 => ?_)
  refine x_lstore_n k219_33 (ls' := [(0, vj z10)]) (by decide) rfl ?_
  refine x_A k219_34 (fun _ => rfl) ?_
  refine x_A k219_35 (fun _ => rfl) ?_
  refine x_bipush k219_36 (by decide +kernel) ?_
  refine x_lushr_u k219_38 ⟨by omega, by omega⟩ (fun z11 b_z11 u_z11 => ?_)
  refine x_ladd_u k219_39 (fun z12 b_z12 u_z12 => ?_)
  refine x_lstore_n k219_40 (ls' := [(0, vj z12)]) (by decide) rfl ?_
  refine x_A k219_41 (fun _ => rfl) ?_
  refine x_A k219_42 (fun _ => rfl) ?_
  refine x_bipush k219_43 (by decide +kernel) ?_
  refine x_lushr_u k219_45 ⟨by omega, by omega⟩ (fun z13 b_z13 u_z13 => ?_)
  refine x_ladd_u k219_46 (fun z14 b_z14 u_z14 => ?_)
  refine x_lstore_n k219_47 (ls' := [(0, vj z14)]) (by decide) rfl ?_
  refine x_A k219_48 (fun _ => rfl) ?_
  refine x_A k219_49 (fun _ => rfl) ?_
  refine x_bipush k219_50 (by decide +kernel) ?_
  refine x_lushr_u k219_52 ⟨by omega, by omega⟩ (fun z15 b_z15 u_z15 => ?_)
  refine x_ladd_u k219_53 (fun z16 b_z16 u_z16 => ?_)
  refine x_lstore_n k219_54 (ls' := [(0, vj z16)]) (by decide) rfl ?_
  refine x_A k219_55 (fun _ => rfl) ?_
  refine x_l2i_u k219_56 (fun z17 g_z17 u_z17 => ?_)
  unfold in32 at g_z17
  refine x_bipush k219_57 (by decide +kernel) ?_
  refine x_and127 k219_59 (fun z18 u_z18 => ?_)
  exact x_iret k219_60 rfl ⟨hG0, f0, z18, rfl, (by first | exact x_rbe e_z18 g_z18 rfl rfl | exact x_rb g_z18 rfl rfl | exact ⟨by omega, by omega⟩), (by rw [u_z18, u_z17, ctp_nbs, swar (un_lt a) (y0 := un z2) (y1 := un z3) (y2 := un z7) (y3 := un z10) (y4 := un z12) (y5 := un z14) (y6 := un z16) (by rw [u_z2, u_z1, un_c.1, pw_u.1]) u_z3 (by rw [u_z7, u_z4, u_z6, u_z5, un_c.2.1, pw_u.2.1]) (by rw [u_z10, u_z9, u_z8, un_c.2.2, pw_u.2.2.1]) (by rw [u_z12, u_z11, pw_u.2.2.2.1]) (by rw [u_z14, u_z13, pw_u.2.2.2.2.1]) (by rw [u_z16, u_z15, pw_u.2.2.2.2.2])])⟩
set_option maxHeartbeats 8000000 in
theorem L_E_X9_marksOf_214_5 (s0 : xS) (a : Int) (b_a : (-2147483648) ≤ a ∧ a ≤ 2147483647) (b : Int) (b_b : (-2147483648) ≤ b ∧ b ≤ 2147483647)  : ∀ (n : Nat) (s : xS) (x1 : Int) (x2 : Int) (x3 : Int) (x5 : Int) (x1000 : Int) (hG : GI s) (f : FL [] s0 s) (b_x1 : (-2147483648) ≤ x1 ∧ x1 ≤ 2147483647) (b_x2 : (-2147483648) ≤ x2 ∧ x2 ≤ 2147483647) (b_x3 : in64 x3) (b_x5 : 0 ≤ x5 ∧ x5 ≤ 60) (b_x1000 : 0 ≤ x1000 ∧ x1000 ≤ 60) (r_5_1000 : x5 ≤ x1000 + 0) (w_0 : x1 = a) (w_1 : x2 = b) (w_2 : x1000 = s0 214 3) (w_3 : x5 ≤ x1000) (w_4 : ∀ k : Nat, k < 64 → (bt x3 k = true ↔ wms s0 a b x5 (k : Int))) (e_x1000 : x1000 = s 214 3)  (hm : (60 - x5) < (n : Int)), xe none 89 5 [(0, .ref 214), (1, vi x1), (2, vi x2), (3, vj x3), (5, vi x5)] [] s 0 0 (fun s' v => GI s' ∧ FL [] s0 s' ∧ ∃ z, v = some (vj z) ∧ in64 z ∧ (∀ k : Nat, k < 64 → (bt z k = true ↔ wms s0 a b (s0 214 3) (k : Int)))) := by
  intro n
  induction n with
  | zero => intro s x1 x2 x3 x5 x1000 hG f b_x1 b_x2 b_x3 b_x5 b_x1000 r_5_1000 w_0 w_1 w_2 w_3 w_4 e_x1000  hm; exfalso; omega
  | succ n ih =>
    intro s x1 x2 x3 x5 x1000 hG f b_x1 b_x2 b_x3 b_x5 b_x1000 r_5_1000 w_0 w_1 w_2 w_3 w_4 e_x1000  hm
    refine x_A k89_5 (fun _ => rfl) ?_
    refine x_A k89_7 (fun _ => rfl) ?_
    refine x_getI k89_8 (f := 3) rfl (q := 214) (n := 4) (kd := 10) ⟨by decide, rfl⟩ (by decide) rfl ?_
    refine x_rw (e_x1000.symm) ?_
    refine x_ic_ge k89_11 (t := 54) rfl (by first | exact x_rb b_x5 rfl rfl | exact ⟨by omega, by omega⟩) (by first | exact x_rb b_x1000 rfl rfl | exact ⟨by omega, by omega⟩) (fun c135 => ?_) (fun c135 => ?_)
    · skip
      refine x_A k89_54 (fun _ => rfl) ?_
      exact x_lret k89_55 rfl ⟨hG, f, x3, rfl, b_x3, (by rw [show s0 214 3 = x5 by omega]; exact w_4)⟩
    · skip
      refine x_A k89_14 (fun _ => rfl) ?_
      refine x_getR k89_15 (f := 0) rfl (q := 214) (n := 4) (kd := 10) ⟨by decide, rfl⟩ (q2 := 215) (by decide) rfl ?_
      refine x_A k89_18 (fun _ => rfl) ?_
      refine x_iald k89_20 (q := 215) (n := 60) ⟨by decide, rfl⟩ (by decide) (by first | exact x_rbl b_x5 rfl rfl | exact ⟨by omega, by omega⟩) ?_
      refine x_top (fun z136 e_z136 => ?_)
      have g_z136 : (0 : Int) ≤ s 215 x5.toNat ∧ s 215 x5.toNat ≤ 3 := hG 215 x5.toNat
      refine x_A k89_21 (fun _ => rfl) ?_
      refine x_ic_ne k89_22 (t := 48) rfl (by first | exact x_rbe e_z136 g_z136 rfl rfl | exact x_rb g_z136 rfl rfl | exact ⟨by omega, by omega⟩) (by first | exact x_rb b_x1 rfl rfl | exact ⟨by omega, by omega⟩) (fun c137 => ?_) (fun c137 => ?_)
      · skip
        refine x_iinc k89_48 (ls' := [(5, vi (x5 + 1)), (0, .ref 214), (1, vi x1), (2, vi x2), (3, vj x3)]) rfl (by decide) rfl ?_
        refine x_goto k89_51 (t := 5) rfl ?_
        refine x_ls (l := [(0, .ref 214), (1, vi x1), (2, vi x2), (3, vj x3), (5, vi (x5 + 1))]) (show ([0, 1, 2, 3, 5] : List Nat).Nodup from by decide +kernel) ⟨rfl, rfl, rfl, rfl, rfl, trivial⟩ ?_
        exact ih s x1 x2 x3 (x5 + 1) x1000 hG f (by first | exact x_rb b_x1 rfl rfl | exact ⟨by omega, by omega⟩) (by first | exact x_rb b_x2 rfl rfl | exact ⟨by omega, by omega⟩) b_x3 ⟨by omega, by omega⟩ (by first | exact x_rb b_x1000 rfl rfl | exact ⟨by omega, by omega⟩) (by omega) (by omega) (by omega) (by omega) (by omega) (fun k hk => (w_4 k hk).trans (wms_no (by rw [← f.nil]; omega)).symm) (e_x1000.symm).symm  (by omega)
      · skip
        refine x_A k89_25 (fun _ => rfl) ?_
        refine x_getR k89_26 (f := 1) rfl (q := 214) (n := 4) (kd := 10) ⟨by decide, rfl⟩ (q2 := 216) (by decide) rfl ?_
        refine x_A k89_29 (fun _ => rfl) ?_
        refine x_iald k89_31 (q := 216) (n := 60) ⟨by decide, rfl⟩ (by decide) (by first | exact x_rbl b_x5 rfl rfl | exact ⟨by omega, by omega⟩) ?_
        refine x_top (fun z138 e_z138 => ?_)
        have g_z138 : (0 : Int) ≤ s 216 x5.toNat ∧ s 216 x5.toNat ≤ 99 := hG 216 x5.toNat
        refine x_A k89_32 (fun _ => rfl) ?_
        refine x_ic_ne k89_33 (t := 48) rfl (by first | exact x_rbe e_z138 g_z138 rfl rfl | exact x_rb g_z138 rfl rfl | exact ⟨by omega, by omega⟩) (by first | exact x_rb b_x2 rfl rfl | exact ⟨by omega, by omega⟩) (fun c139 => ?_) (fun c139 => ?_)
        · skip
          refine x_iinc k89_48 (ls' := [(5, vi (x5 + 1)), (0, .ref 214), (1, vi x1), (2, vi x2), (3, vj x3)]) rfl (by decide) rfl ?_
          refine x_goto k89_51 (t := 5) rfl ?_
          refine x_ls (l := [(0, .ref 214), (1, vi x1), (2, vi x2), (3, vj x3), (5, vi (x5 + 1))]) (show ([0, 1, 2, 3, 5] : List Nat).Nodup from by decide +kernel) ⟨rfl, rfl, rfl, rfl, rfl, trivial⟩ ?_
          exact ih s x1 x2 x3 (x5 + 1) x1000 hG f (by first | exact x_rb b_x1 rfl rfl | exact ⟨by omega, by omega⟩) (by first | exact x_rb b_x2 rfl rfl | exact ⟨by omega, by omega⟩) b_x3 ⟨by omega, by omega⟩ (by first | exact x_rb b_x1000 rfl rfl | exact ⟨by omega, by omega⟩) (by omega) (by omega) (by omega) (by omega) (by omega) (fun k hk => (w_4 k hk).trans (wms_no (by rw [← f.nil]; omega)).symm) (e_x1000.symm).symm  (by omega)
        · skip
          refine x_A k89_36 (fun _ => rfl) ?_
          refine x_lconst k89_37 (z := 1) (by decide +kernel) ?_
          refine x_A k89_38 (fun _ => rfl) ?_
          refine x_getR k89_39 (f := 2) rfl (q := 214) (n := 4) (kd := 10) ⟨by decide, rfl⟩ (q2 := 217) (by decide) rfl ?_
          refine x_A k89_42 (fun _ => rfl) ?_
          refine x_iald k89_44 (q := 217) (n := 60) ⟨by decide, rfl⟩ (by decide) (by first | exact x_rbl b_x5 rfl rfl | exact ⟨by omega, by omega⟩) ?_
          refine x_top (fun z140 e_z140 => ?_)
          have g_z140 : (0 : Int) ≤ s 217 x5.toNat ∧ s 217 x5.toNat ≤ 39 := hG 217 x5.toNat
          refine x_lshl1 k89_45 ⟨by omega, by omega⟩ (fun z141 b_z141 g_z141 => ?_)
          refine x_lor_b k89_46 (fun z142 b_z142 g_z142 => ?_)
          refine x_lstore_n k89_47 (ls' := [(3, vj z142), (0, .ref 214), (1, vi x1), (2, vi x2), (5, vi x5)]) (by decide) rfl ?_
          refine x_iinc k89_48 (ls' := [(5, vi (x5 + 1)), (3, vj z142), (0, .ref 214), (1, vi x1), (2, vi x2)]) rfl (by decide) rfl ?_
          refine x_goto k89_51 (t := 5) rfl ?_
          refine x_ls (l := [(0, .ref 214), (1, vi x1), (2, vi x2), (3, vj z142), (5, vi (x5 + 1))]) (show ([0, 1, 2, 3, 5] : List Nat).Nodup from by decide +kernel) ⟨rfl, rfl, rfl, rfl, rfl, trivial⟩ ?_
          exact ih s x1 x2 z142 (x5 + 1) x1000 hG f (by first | exact x_rb b_x1 rfl rfl | exact ⟨by omega, by omega⟩) (by first | exact x_rb b_x2 rfl rfl | exact ⟨by omega, by omega⟩) b_z142 ⟨by omega, by omega⟩ (by first | exact x_rb b_x1000 rfl rfl | exact ⟨by omega, by omega⟩) (by omega) (by omega) (by omega) (by omega) (by omega) (wms_step (by omega) (by rw [← f.nil]; omega) (by omega) (by rw [← f.nil]; exact e_z140.symm) w_4 g_z141 g_z142) (e_x1000.symm).symm  (by omega)
set_option maxHeartbeats 8000000 in
theorem E_X9_marksOf_214 (s0 : xS) (hG0 : GI s0) (a : Int) (b_a : (-2147483648) ≤ a ∧ a ≤ 2147483647) (b : Int) (b_b : (-2147483648) ≤ b ∧ b ≤ 2147483647) : xe none 89 0 (lv_args 0 [.ref 214, vi a, vi b]) [] s0 0 0 (fun s' v => GI s' ∧ FL [] s0 s' ∧ ∃ z, v = some (vj z) ∧ in64 z ∧ (∀ k : Nat, k < 64 → (bt z k = true ↔ wms s0 a b (s0 214 3) (k : Int)))) := by
  have f0 : FL [] s0 s0 := FL.rf
  show xe none 89 0 [(0, .ref 214), (1, vi a), (2, vi b)] [] s0 0 0 _
  refine x_lconst k89_0 (z := 0) (by decide +kernel) ?_
  refine x_lstore_n k89_1 (ls' := [(3, vj 0), (0, .ref 214), (1, vi a), (2, vi b)]) (by decide) rfl ?_
  refine x_A k89_2 (fun _ => rfl) ?_
  refine x_istore k89_3 (ls' := [(5, vi 0), (3, vj 0), (0, .ref 214), (1, vi a), (2, vi b)]) (by decide) rfl ?_
  obtain ⟨z143, e_z143⟩ : ∃ z, z = s0 214 3 := ⟨_, rfl⟩
  have g_z143 : (0 : Int) ≤ s0 214 3 ∧ s0 214 3 ≤ 60 := hG0 214 3
  refine x_ls (l := [(0, .ref 214), (1, vi a), (2, vi b), (3, vj 0), (5, vi 0)]) (show ([0, 1, 2, 3, 5] : List Nat).Nodup from by decide +kernel) ⟨rfl, rfl, rfl, rfl, rfl, trivial⟩ ?_
  exact L_E_X9_marksOf_214_5 s0 a b_a b b_b  (((60 - 0) + 1 : Int)).toNat s0 a b 0 0 z143 hG0 f0 (by first | exact x_rb b_a rfl rfl | exact ⟨by omega, by omega⟩) (by first | exact x_rb b_b rfl rfl | exact ⟨by omega, by omega⟩) ⟨by omega, by omega⟩ ⟨by decide, by decide⟩ (by first | exact x_rbe e_z143 g_z143 rfl rfl | exact x_rb g_z143 rfl rfl | exact ⟨by omega, by omega⟩) (by omega) (by omega) (by omega) (by omega) (by omega) (fun k _ => by rw [bt_0]; exact ⟨fun q => (by cases q), fun q => (wms_0 q).elim⟩) (e_z143.symm).symm  (by omega)
set_option maxHeartbeats 8000000 in
theorem E_X9_add_214 (s0 : xS) (hG0 : GI s0) (a : Int) (b_a : 0 ≤ a ∧ a ≤ 3) (b : Int) (b_b : 0 ≤ b ∧ b ≤ 99) (d : Int) (b_d : 0 ≤ d ∧ d ≤ 39) : xe none 88 0 (lv_args 0 [.ref 214, vi a, vi b, vi d]) [] s0 0 0 (fun s' v => GI s' ∧ FL [2244, 2304, 2368, 2432] s0 s' ∧ ∃ z, v = some (vi z) ∧ ((-1004) ≤ z ∧ z ≤ 127) ∧ ((60 ≤ s0 214 3 ∧ z = -1004 ∧ s' 214 3 = s0 214 3 ∧ s' 215 = s0 215 ∧ s' 216 = s0 216 ∧ s' 217 = s0 217) ∨ (s0 214 3 < 60 ∧ s' 214 3 = s0 214 3 + 1 ∧ (∀ j : Nat, s' 215 j = if j = (s0 214 3).toNat then a else s0 215 j) ∧ (∀ j : Nat, s' 216 j = if j = (s0 214 3).toNat then b else s0 216 j) ∧ (∀ j : Nat, s' 217 j = if j = (s0 214 3).toNat then d else s0 217 j) ∧ z = ctp (fun k => wms s' a b (s' 214 3) (k : Int)) 64))) := by
  have f0 : FL [2244, 2304, 2368, 2432] s0 s0 := FL.rf
  show xe none 88 0 [(0, .ref 214), (1, vi a), (2, vi b), (3, vi d)] [] s0 0 0 _
  refine x_A k88_0 (fun _ => rfl) ?_
  refine x_getI k88_1 (f := 3) rfl (q := 214) (n := 4) (kd := 10) ⟨by decide, rfl⟩ (by decide) rfl ?_
  refine x_top (fun z1 e_z1 => ?_)
  have g_z1 : (0 : Int) ≤ s0 214 3 ∧ s0 214 3 ≤ 60 := hG0 214 3
  refine x_bipush k88_4 (by decide +kernel) ?_
  refine x_ic_lt k88_6 (t := 13) rfl (by first | exact x_rbe e_z1 g_z1 rfl rfl | exact x_rb g_z1 rfl rfl | exact ⟨by omega, by omega⟩) ⟨by decide, by decide⟩ (fun c2 => ?_) (fun c2 => ?_)
  · skip
    refine x_A k88_13 (fun _ => rfl) ?_
    refine x_getR k88_14 (f := 0) rfl (q := 214) (n := 4) (kd := 10) ⟨by decide, rfl⟩ (q2 := 215) (by decide) rfl ?_
    refine x_A k88_17 (fun _ => rfl) ?_
    refine x_getI k88_18 (f := 3) rfl (q := 214) (n := 4) (kd := 10) ⟨by decide, rfl⟩ (by decide) rfl ?_
    refine x_rw (e_z1.symm) ?_
    refine x_A k88_21 (fun _ => rfl) ?_
    refine x_iast k88_22 (q := 215) (n := 60) ⟨by decide, rfl⟩ (by decide) (by first | exact x_rbel e_z1 g_z1 rfl rfl | exact x_rbl g_z1 rfl rfl | exact ⟨by omega, by omega⟩) ?_
    refine x_nh (fun s3 e_s3 => ?_)
    have hG_s3 : GI s3 := by rw [e_s3]; exact hG0.up (show 0 ≤ a ∧ a ≤ 3 from (by first | exact x_rb b_a rfl rfl | exact ⟨by omega, by omega⟩))
    have f_s3 : FL [2244, 2304, 2368, 2432] s0 s3 := by rw [e_s3]; exact f0.up (show 2304 ∈ [2244, 2304, 2368, 2432] from by decide +kernel)
    have q4 : s3 214 3 = z1 := by rw [e_s3, x_up_q (by decide)]; exact e_z1.symm
    have q5 : s3 215 z1.toNat = a := by rw [e_s3]; exact x_up_same
    refine x_A k88_23 (fun _ => rfl) ?_
    refine x_getR k88_24 (f := 1) rfl (q := 214) (n := 4) (kd := 10) ⟨by decide, rfl⟩ (q2 := 216) (by decide) rfl ?_
    refine x_A k88_27 (fun _ => rfl) ?_
    refine x_getI k88_28 (f := 3) rfl (q := 214) (n := 4) (kd := 10) ⟨by decide, rfl⟩ (by decide) rfl ?_
    refine x_rw (q4) ?_
    refine x_A k88_31 (fun _ => rfl) ?_
    refine x_iast k88_32 (q := 216) (n := 60) ⟨by decide, rfl⟩ (by decide) (by first | exact x_rbel e_z1 g_z1 rfl rfl | exact x_rbl g_z1 rfl rfl | exact ⟨by omega, by omega⟩) ?_
    refine x_nh (fun s6 e_s6 => ?_)
    have hG_s6 : GI s6 := by rw [e_s6]; exact hG_s3.up (show 0 ≤ b ∧ b ≤ 99 from (by first | exact x_rb b_b rfl rfl | exact ⟨by omega, by omega⟩))
    have f_s6 : FL [2244, 2304, 2368, 2432] s0 s6 := by rw [e_s6]; exact f_s3.up (show 2368 ∈ [2244, 2304, 2368, 2432] from by decide +kernel)
    have q7 : s6 214 3 = z1 := by rw [e_s6, x_up_q (by decide)]; exact q4
    have q8 : s6 215 z1.toNat = a := by rw [e_s6, x_up_q (by first | decide | omega)]; exact q5
    have q9 : s6 216 z1.toNat = b := by rw [e_s6]; exact x_up_same
    refine x_A k88_33 (fun _ => rfl) ?_
    refine x_getR k88_34 (f := 2) rfl (q := 214) (n := 4) (kd := 10) ⟨by decide, rfl⟩ (q2 := 217) (by decide) rfl ?_
    refine x_A k88_37 (fun _ => rfl) ?_
    refine x_getI k88_38 (f := 3) rfl (q := 214) (n := 4) (kd := 10) ⟨by decide, rfl⟩ (by decide) rfl ?_
    refine x_rw (q7) ?_
    refine x_A k88_41 (fun _ => rfl) ?_
    refine x_iast k88_42 (q := 217) (n := 60) ⟨by decide, rfl⟩ (by decide) (by first | exact x_rbel e_z1 g_z1 rfl rfl | exact x_rbl g_z1 rfl rfl | exact ⟨by omega, by omega⟩) ?_
    refine x_nh (fun s10 e_s10 => ?_)
    have hG_s10 : GI s10 := by rw [e_s10]; exact hG_s6.up (show 0 ≤ d ∧ d ≤ 39 from (by first | exact x_rb b_d rfl rfl | exact ⟨by omega, by omega⟩))
    have f_s10 : FL [2244, 2304, 2368, 2432] s0 s10 := by rw [e_s10]; exact f_s6.up (show 2432 ∈ [2244, 2304, 2368, 2432] from by decide +kernel)
    have q11 : s10 214 3 = z1 := by rw [e_s10, x_up_q (by decide)]; exact q7
    have q12 : s10 215 z1.toNat = a := by rw [e_s10, x_up_q (by first | decide | omega)]; exact q8
    have q13 : s10 216 z1.toNat = b := by rw [e_s10, x_up_q (by first | decide | omega)]; exact q9
    have q14 : s10 217 z1.toNat = d := by rw [e_s10]; exact x_up_same
    refine x_A k88_43 (fun _ => rfl) ?_
    refine x_A k88_44 (fun _ => rfl) ?_
    refine x_getI k88_45 (f := 3) rfl (q := 214) (n := 4) (kd := 10) ⟨by decide, rfl⟩ (by decide) rfl ?_
    refine x_rw (q11) ?_
    refine x_A k88_48 (fun _ => rfl) ?_
    refine x_iadd k88_49 ?_
    refine x_top (fun z15 e_z15 => ?_)
    refine x_putI k88_50 (f := 3) rfl (q := 214) (n := 4) (kd := 10) ⟨by decide, rfl⟩ rfl rfl rfl ?_
    refine x_nh (fun s16 e_s16 => ?_)
    have hG_s16 : GI s16 := by rw [e_s16]; exact hG_s10.up (show 0 ≤ z15 ∧ z15 ≤ 60 from (by first | exact x_rbe e_z15 g_z15 rfl rfl | exact x_rb g_z15 rfl rfl | exact ⟨by omega, by omega⟩))
    have f_s16 : FL [2244, 2304, 2368, 2432] s0 s16 := by rw [e_s16]; exact f_s10.up (show 2244 ∈ [2244, 2304, 2368, 2432] from by decide +kernel)
    have q17 : s16 214 3 = z15 := by rw [e_s16]; exact x_up_same
    have q18 : s16 215 z1.toNat = a := by rw [e_s16, x_up_q (by first | decide | omega)]; exact q12
    have q19 : s16 216 z1.toNat = b := by rw [e_s16, x_up_q (by first | decide | omega)]; exact q13
    have q20 : s16 217 z1.toNat = d := by rw [e_s16, x_up_q (by first | decide | omega)]; exact q14
    refine x_A k88_53 (fun _ => rfl) ?_
    refine x_A k88_54 (fun _ => rfl) ?_
    refine x_A k88_55 (fun _ => rfl) ?_
    refine x_callV k88_56 (y := 89) (n := 2) (w0 := 0) (w1 := 2) (as := [vi a, vi b]) (rest := []) (by decide +kernel) (q := 214) (nq := 4) (kq := 10) ⟨by decide, rfl⟩ rfl rfl rfl rfl (xe_mono (E_X9_marksOf_214 s16 hG_s16 a (by first | exact x_rb b_a rfl rfl | exact ⟨by omega, by omega⟩) b (by first | exact x_rb b_b rfl rfl | exact ⟨by omega, by omega⟩)) ?_)
    rintro s22 v ⟨-, t_s22, z21, rfl, b_z21, xp_z21⟩
    rw [t_s22.nil]
    try rw [t_s22.nil] at xp_z21
    show xe none 88 59 [(0, .ref 214), (1, vi a), (2, vi b), (3, vi d)] [vj z21] s16 0 0 _
    refine x_callS k88_59 (y := 219) (n := 1) (w0 := 0) (w1 := 2) (as := [vj z21]) (rest := []) (by decide +kernel) rfl rfl rfl rfl (xe_mono (E_J13_bitCount_95d88 s16 hG_s16 z21 b_z21) ?_)
    rintro s24 v ⟨-, t_s24, z23, rfl, g_z23, xp_z23⟩
    rw [t_s24.nil]
    try rw [t_s24.nil] at xp_z23
    show xe none 88 62 [(0, .ref 214), (1, vi a), (2, vi b), (3, vi d)] [vi z23] s16 0 0 _
    exact x_iret k88_62 rfl ⟨hG_s16, f_s16, z23, rfl, (by first | exact x_rbe e_z23 g_z23 rfl rfl | exact x_rb g_z23 rfl rfl | exact ⟨by omega, by omega⟩), Or.inr ⟨by omega, by omega, fun j => by rw [e_s16, x_up_q (by decide), e_s10, x_up_q (by decide), e_s6, x_up_q (by decide), e_s3, x_up_at, show z1 = s0 214 3 by omega], fun j => by rw [e_s16, x_up_q (by decide), e_s10, x_up_q (by decide), e_s6, x_up_at, e_s3, x_up_q (by decide), show z1 = s0 214 3 by omega], fun j => by rw [e_s16, x_up_q (by decide), e_s10, x_up_at, e_s6, x_up_q (by decide), e_s3, x_up_q (by decide), show z1 = s0 214 3 by omega], by rw [xp_z23]; exact ctp_cg _ xp_z21⟩⟩
  · skip
    refine x_sipush k88_9 (by decide +kernel) ?_
    exact x_iret k88_12 rfl ⟨hG0, f0, (-1004), rfl, ⟨by decide, by decide⟩, Or.inl ⟨by omega, rfl, rfl, rfl, rfl, rfl⟩⟩
