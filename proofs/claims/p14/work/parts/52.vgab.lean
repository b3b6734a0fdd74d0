set_option maxHeartbeats 8000000 in
theorem V_X11_end_256 (s0 : xS) (hG0 : GI s0) (a : Int) (b_a : (-2147483648) ≤ a ∧ a ≤ 2147483647) (b : Int) (b_b : (-2147483648) ≤ b ∧ b ≤ 2147483647) (p_256_1 : 1 ≤ s0 256 1 ∧ s0 256 1 ≤ 40) (p_256_0 : 0 ≤ s0 256 0 ∧ s0 256 0 ≤ 9) (i0_J : J s0) : xe none 148 0 (lv_args 0 [.ref 256, vi a, vi b]) [] s0 0 0 (fun s' v => GI s' ∧ FL [4224, 4288] s0 s' ∧ ∃ z, v = some (vi z) ∧ ((-1004) ≤ z ∧ z ≤ 39) ∧ (EnW s0 s' a b) ∧ J s') := by
  have f0 : FL [4224, 4288] s0 s0 := FL.rf
  show xe none 148 0 [(0, .ref 256), (1, vi a), (2, vi b)] [] s0 0 0 _
  obtain ⟨z1, e_z1⟩ : ∃ z, z = s0 256 1 := ⟨_, rfl⟩
  have g_z1 : (1 : Int) ≤ s0 256 1 ∧ s0 256 1 ≤ 40 := hG0 256 1
  obtain ⟨z2, e_z2⟩ : ∃ z, z = s0 256 0 := ⟨_, rfl⟩
  have g_z2 : (0 : Int) ≤ s0 256 0 ∧ s0 256 0 ≤ 9 := hG0 256 0
  refine x_A k148_0 (fun _ => rfl) ?_
  refine x_A k148_1 (fun _ => rfl) ?_
  refine x_callV k148_2 (y := 137) (n := 1) (w0 := 0) (w1 := 1) (as := [vi a]) (rest := []) (by decide +kernel) (q := 256) (nq := 62) (kq := 15) ⟨by decide, rfl⟩ rfl rfl rfl rfl (xe_mono (C_X11_isMark_256 s0 hG0 a (by first | exact x_rb b_a rfl rfl | exact ⟨by omega, by omega⟩)) ?_)
  rintro s4 v ⟨h_s4, z3, rfl, hz_z3⟩
  rw [h_s4]
  rcases hz_z3 with ⟨c_z3, e_z3⟩ | ⟨c_z3, e_z3⟩
  · rw [e_z3]
    show xe none 148 5 [(0, .ref 256), (1, vi a), (2, vi b)] [vi 1] s0 0 0 _
    refine x_if_eq k148_5 (t := 21) rfl ⟨by decide, by decide⟩ (fun c5 => by exfalso; omega) (fun c5 => ?_)
    refine x_A k148_8 (fun _ => rfl) ?_
    refine x_A k148_9 (fun _ => rfl) ?_
    refine x_ic_eq k148_10 (t := 25) rfl (by first | exact x_rb b_b rfl rfl | exact ⟨by omega, by omega⟩) ⟨by decide, by decide⟩ (fun c6 => ?_) (fun c6 => ?_)
    · skip
      refine x_A k148_25 (fun _ => rfl) ?_
      refine x_if_eq k148_26 (t := 63) rfl (by first | exact x_rb b_a rfl rfl | exact ⟨by omega, by omega⟩) (fun c7 => ?_) (fun c7 => ?_)
      · skip
        refine x_sipush k148_63 (by decide +kernel) ?_
        exact x_iret k148_66 rfl ⟨hG0, f0, (-1003), rfl, ⟨by decide, by decide⟩, (by unfold EnW; exact Or.inr (Or.inl ⟨by omega, by omega, rfl, rfl⟩)), i0_J⟩
      · skip
        refine x_A k148_29 (fun _ => rfl) ?_
        refine x_A k148_30 (fun _ => rfl) ?_
        refine x_ic_eq k148_31 (t := 63) rfl (by first | exact x_rb b_a rfl rfl | exact ⟨by omega, by omega⟩) (by first | exact x_rb b_b rfl rfl | exact ⟨by omega, by omega⟩) (fun c8 => by exfalso; omega) (fun c8 => ?_)
        refine x_A k148_34 (fun _ => rfl) ?_
        refine x_A k148_35 (fun _ => rfl) ?_
        refine x_A k148_36 (fun _ => rfl) ?_
        refine x_getI k148_37 (f := 0) rfl (q := 256) (n := 62) (kd := 15) ⟨by decide, rfl⟩ (by decide) rfl ?_
        refine x_rw (e_z2.symm) ?_
        refine x_callV k148_40 (y := 142) (n := 2) (w0 := 0) (w1 := 2) (as := [vi a, vi z2]) (rest := []) (by decide +kernel) (q := 256) (nq := 62) (kq := 15) ⟨by decide, rfl⟩ rfl rfl rfl rfl (xe_mono (C_X11_isThere_256 s0 hG0 a (by first | exact x_rb b_a rfl rfl | exact ⟨by omega, by omega⟩) z2 (by first | exact x_rbe e_z2 g_z2 rfl rfl | exact x_rb g_z2 rfl rfl | exact ⟨by omega, by omega⟩)) ?_)
        rintro s10 v ⟨h_s10, z9, rfl, hz_z9⟩
        rw [h_s10]
        rcases hz_z9 with ⟨c_z9, e_z9, m_z9⟩ | ⟨e_z9, m_z9⟩
        · rw [e_z9]
          show xe none 148 43 [(0, .ref 256), (1, vi a), (2, vi b)] [vi 1] s0 0 0 _
          refine x_if_eq k148_43 (t := 63) rfl ⟨by decide, by decide⟩ (fun c11 => by exfalso; omega) (fun c11 => ?_)
          refine x_A k148_46 (fun _ => rfl) ?_
          refine x_A k148_47 (fun _ => rfl) ?_
          refine x_ic_eq k148_48 (t := 67) rfl (by first | exact x_rb b_b rfl rfl | exact ⟨by omega, by omega⟩) ⟨by decide, by decide⟩ (fun c12 => ?_) (fun c12 => by exfalso; omega)
          refine x_A k148_67 (fun _ => rfl) ?_
          refine x_getR k148_68 (f := 3) rfl (q := 256) (n := 62) (kd := 15) ⟨by decide, rfl⟩ (q2 := 258) (by decide) rfl ?_
          refine x_A k148_71 (fun _ => rfl) ?_
          refine x_A k148_72 (fun _ => rfl) ?_
          refine x_getI k148_73 (f := 0) rfl (q := 256) (n := 62) (kd := 15) ⟨by decide, rfl⟩ (by decide) rfl ?_
          refine x_rw (e_z2.symm) ?_
          refine x_iast k148_76 (q := 258) (n := 40) ⟨by decide, rfl⟩ (by decide) (by first | exact x_rbl b_a rfl rfl | exact ⟨by omega, by omega⟩) ?_
          refine x_nh (fun s13 e_s13 => ?_)
          have hG_s13 : GI s13 := by rw [e_s13]; exact hG0.up (show (-1) ≤ z2 ∧ z2 ≤ 9 from (by first | exact x_rbe e_z2 g_z2 rfl rfl | exact x_rb g_z2 rfl rfl | exact ⟨by omega, by omega⟩))
          have f_s13 : FL [4224, 4288] s0 s13 := by rw [e_s13]; exact f0.up (show 4224 ∈ [4224, 4288] from by decide)
          have q14 : s13 256 1 = z1 := by rw [e_s13, x_up_q (by decide)]; exact e_z1.symm
          have q15 : s13 256 0 = z2 := by rw [e_s13, x_up_q (by decide)]; exact e_z2.symm
          have q16 : s13 258 a.toNat = z2 := by rw [e_s13]; exact x_up_same
          refine x_A k148_77 (fun _ => rfl) ?_
          refine x_getR k148_78 (f := 4) rfl (q := 256) (n := 62) (kd := 15) ⟨by decide, rfl⟩ (q2 := 259) (by decide) rfl ?_
          refine x_A k148_81 (fun _ => rfl) ?_
          refine x_A k148_82 (fun _ => rfl) ?_
          refine x_iast k148_83 (q := 259) (n := 40) ⟨by decide, rfl⟩ (by decide) (by first | exact x_rbl b_a rfl rfl | exact ⟨by omega, by omega⟩) ?_
          refine x_nh (fun s17 e_s17 => ?_)
          have hG_s17 : GI s17 := by rw [e_s17]; exact hG_s13.up (show (-1) ≤ b ∧ b ≤ 39 from (by first | exact x_rb b_b rfl rfl | exact ⟨by omega, by omega⟩))
          have f_s17 : FL [4224, 4288] s0 s17 := by rw [e_s17]; exact f_s13.up (show 4288 ∈ [4224, 4288] from by decide)
          have q18 : s17 256 1 = z1 := by rw [e_s17, x_up_q (by decide)]; exact q14
          have q19 : s17 256 0 = z2 := by rw [e_s17, x_up_q (by decide)]; exact q15
          have q20 : s17 258 a.toNat = z2 := by rw [e_s17, x_up_q (by first | decide | omega)]; exact q16
          have q21 : s17 259 a.toNat = b := by rw [e_s17]; exact x_up_same
          have J_e : J s17 := by rw [e_s17, e_s13]; exact J.end i0_J hG0 e_z2 ⟨by omega, by omega⟩ (by omega) (by omega)
          refine x_A k148_84 (fun _ => rfl) ?_
          refine x_A k148_85 (fun _ => rfl) ?_
          refine x_A k148_86 (fun _ => rfl) ?_
          refine x_getI k148_87 (f := 0) rfl (q := 256) (n := 62) (kd := 15) ⟨by decide, rfl⟩ (by decide) rfl ?_
          refine x_rw (q19) ?_
          refine x_callV k148_90 (y := 144) (n := 2) (w0 := 0) (w1 := 2) (as := [vi a, vi z2]) (rest := []) (by decide +kernel) (q := 256) (nq := 62) (kq := 15) ⟨by decide, rfl⟩ rfl rfl rfl rfl (xe_mono (E_X11_belowMany_256 s17 hG_s17 J_e a (by first | exact x_rb b_a rfl rfl | exact ⟨by omega, by omega⟩) z2 (by first | exact x_rbe e_z2 g_z2 rfl rfl | exact x_rb g_z2 rfl rfl | exact ⟨by omega, by omega⟩)) ?_)
          rintro s23 v ⟨-, t_s23, z22, rfl, g_z22, xp_z22⟩
          rw [t_s23.nil]
          try rw [t_s23.nil] at xp_z22
          show xe none 148 93 [(0, .ref 256), (1, vi a), (2, vi b)] [vi z22] s17 0 0 _
          refine x_A k148_93 (fun _ => rfl) ?_
          refine x_isub k148_94 ?_
          refine x_top (fun z24 e_z24 => ?_)
          exact x_iret k148_95 rfl ⟨hG_s17, f_s17, z24, rfl, (by first | exact x_rbe e_z24 g_z24 rfl rfl | exact x_rb g_z24 rfl rfl | exact ⟨by omega, by omega⟩), (by unfold EnW; exact Or.inr (Or.inr ⟨by omega, by omega, fun j => by rw [e_s17, x_up_q (by decide), e_s13, x_up_at, show z2 = s0 256 0 by omega], fun j => by rw [e_s17, x_up_at, e_s13, x_up_q (by decide)]⟩)), J_e⟩
        · rw [e_z9]
          show xe none 148 43 [(0, .ref 256), (1, vi a), (2, vi b)] [vi 0] s0 0 0 _
          refine x_if_eq k148_43 (t := 63) rfl ⟨by decide, by decide⟩ (fun c25 => ?_) (fun c25 => by exfalso; omega)
          refine x_sipush k148_63 (by decide +kernel) ?_
          exact x_iret k148_66 rfl ⟨hG0, f0, (-1003), rfl, ⟨by decide, by decide⟩, (by unfold EnW; exact Or.inr (Or.inl ⟨by omega, by omega, rfl, rfl⟩)), i0_J⟩
    · skip
      refine x_A k148_13 (fun _ => rfl) ?_
      refine x_A k148_14 (fun _ => rfl) ?_
      refine x_callV k148_15 (y := 137) (n := 1) (w0 := 0) (w1 := 1) (as := [vi b]) (rest := []) (by decide +kernel) (q := 256) (nq := 62) (kq := 15) ⟨by decide, rfl⟩ rfl rfl rfl rfl (xe_mono (C_X11_isMark_256 s0 hG0 b (by first | exact x_rb b_b rfl rfl | exact ⟨by omega, by omega⟩)) ?_)
      rintro s27 v ⟨h_s27, z26, rfl, hz_z26⟩
      rw [h_s27]
      rcases hz_z26 with ⟨c_z26, e_z26⟩ | ⟨c_z26, e_z26⟩
      · rw [e_z26]
        show xe none 148 18 [(0, .ref 256), (1, vi a), (2, vi b)] [vi 1] s0 0 0 _
        refine x_if_ne k148_18 (t := 25) rfl ⟨by decide, by decide⟩ (fun c28 => ?_) (fun c28 => by exfalso; omega)
        refine x_A k148_25 (fun _ => rfl) ?_
        refine x_if_eq k148_26 (t := 63) rfl (by first | exact x_rb b_a rfl rfl | exact ⟨by omega, by omega⟩) (fun c29 => ?_) (fun c29 => ?_)
        · skip
          refine x_sipush k148_63 (by decide +kernel) ?_
          exact x_iret k148_66 rfl ⟨hG0, f0, (-1003), rfl, ⟨by decide, by decide⟩, (by unfold EnW; exact Or.inr (Or.inl ⟨by omega, by omega, rfl, rfl⟩)), i0_J⟩
        · skip
          refine x_A k148_29 (fun _ => rfl) ?_
          refine x_A k148_30 (fun _ => rfl) ?_
          refine x_ic_eq k148_31 (t := 63) rfl (by first | exact x_rb b_a rfl rfl | exact ⟨by omega, by omega⟩) (by first | exact x_rb b_b rfl rfl | exact ⟨by omega, by omega⟩) (fun c30 => ?_) (fun c30 => ?_)
          · skip
            refine x_sipush k148_63 (by decide +kernel) ?_
            exact x_iret k148_66 rfl ⟨hG0, f0, (-1003), rfl, ⟨by decide, by decide⟩, (by unfold EnW; exact Or.inr (Or.inl ⟨by omega, by omega, rfl, rfl⟩)), i0_J⟩
          · skip
            refine x_A k148_34 (fun _ => rfl) ?_
            refine x_A k148_35 (fun _ => rfl) ?_
            refine x_A k148_36 (fun _ => rfl) ?_
            refine x_getI k148_37 (f := 0) rfl (q := 256) (n := 62) (kd := 15) ⟨by decide, rfl⟩ (by decide) rfl ?_
            refine x_rw (e_z2.symm) ?_
            refine x_callV k148_40 (y := 142) (n := 2) (w0 := 0) (w1 := 2) (as := [vi a, vi z2]) (rest := []) (by decide +kernel) (q := 256) (nq := 62) (kq := 15) ⟨by decide, rfl⟩ rfl rfl rfl rfl (xe_mono (C_X11_isThere_256 s0 hG0 a (by first | exact x_rb b_a rfl rfl | exact ⟨by omega, by omega⟩) z2 (by first | exact x_rbe e_z2 g_z2 rfl rfl | exact x_rb g_z2 rfl rfl | exact ⟨by omega, by omega⟩)) ?_)
            rintro s32 v ⟨h_s32, z31, rfl, hz_z31⟩
            rw [h_s32]
            rcases hz_z31 with ⟨c_z31, e_z31, m_z31⟩ | ⟨e_z31, m_z31⟩
            · rw [e_z31]
              show xe none 148 43 [(0, .ref 256), (1, vi a), (2, vi b)] [vi 1] s0 0 0 _
              refine x_if_eq k148_43 (t := 63) rfl ⟨by decide, by decide⟩ (fun c33 => by exfalso; omega) (fun c33 => ?_)
              refine x_A k148_46 (fun _ => rfl) ?_
              refine x_A k148_47 (fun _ => rfl) ?_
              refine x_ic_eq k148_48 (t := 67) rfl (by first | exact x_rb b_b rfl rfl | exact ⟨by omega, by omega⟩) ⟨by decide, by decide⟩ (fun c34 => by exfalso; omega) (fun c34 => ?_)
              refine x_A k148_51 (fun _ => rfl) ?_
              refine x_A k148_52 (fun _ => rfl) ?_
              refine x_A k148_53 (fun _ => rfl) ?_
              refine x_getI k148_54 (f := 0) rfl (q := 256) (n := 62) (kd := 15) ⟨by decide, rfl⟩ (by decide) rfl ?_
              refine x_rw (e_z2.symm) ?_
              refine x_callV k148_57 (y := 142) (n := 2) (w0 := 0) (w1 := 2) (as := [vi b, vi z2]) (rest := []) (by decide +kernel) (q := 256) (nq := 62) (kq := 15) ⟨by decide, rfl⟩ rfl rfl rfl rfl (xe_mono (C_X11_isThere_256 s0 hG0 b (by first | exact x_rb b_b rfl rfl | exact ⟨by omega, by omega⟩) z2 (by first | exact x_rbe e_z2 g_z2 rfl rfl | exact x_rb g_z2 rfl rfl | exact ⟨by omega, by omega⟩)) ?_)
              rintro s36 v ⟨h_s36, z35, rfl, hz_z35⟩
              rw [h_s36]
              rcases hz_z35 with ⟨c_z35, e_z35, m_z35⟩ | ⟨e_z35, m_z35⟩
              · rw [e_z35]
                show xe none 148 60 [(0, .ref 256), (1, vi a), (2, vi b)] [vi 1] s0 0 0 _
                refine x_if_ne k148_60 (t := 67) rfl ⟨by decide, by decide⟩ (fun c37 => ?_) (fun c37 => by exfalso; omega)
                refine x_A k148_67 (fun _ => rfl) ?_
                refine x_getR k148_68 (f := 3) rfl (q := 256) (n := 62) (kd := 15) ⟨by decide, rfl⟩ (q2 := 258) (by decide) rfl ?_
                refine x_A k148_71 (fun _ => rfl) ?_
                refine x_A k148_72 (fun _ => rfl) ?_
                refine x_getI k148_73 (f := 0) rfl (q := 256) (n := 62) (kd := 15) ⟨by decide, rfl⟩ (by decide) rfl ?_
                refine x_rw (e_z2.symm) ?_
                refine x_iast k148_76 (q := 258) (n := 40) ⟨by decide, rfl⟩ (by decide) (by first | exact x_rbl b_a rfl rfl | exact ⟨by omega, by omega⟩) ?_
                refine x_nh (fun s38 e_s38 => ?_)
                have hG_s38 : GI s38 := by rw [e_s38]; exact hG0.up (show (-1) ≤ z2 ∧ z2 ≤ 9 from (by first | exact x_rbe e_z2 g_z2 rfl rfl | exact x_rb g_z2 rfl rfl | exact ⟨by omega, by omega⟩))
                have f_s38 : FL [4224, 4288] s0 s38 := by rw [e_s38]; exact f0.up (show 4224 ∈ [4224, 4288] from by decide)
                have q39 : s38 256 1 = z1 := by rw [e_s38, x_up_q (by decide)]; exact e_z1.symm
                have q40 : s38 256 0 = z2 := by rw [e_s38, x_up_q (by decide)]; exact e_z2.symm
                have q41 : s38 258 a.toNat = z2 := by rw [e_s38]; exact x_up_same
                refine x_A k148_77 (fun _ => rfl) ?_
                refine x_getR k148_78 (f := 4) rfl (q := 256) (n := 62) (kd := 15) ⟨by decide, rfl⟩ (q2 := 259) (by decide) rfl ?_
                refine x_A k148_81 (fun _ => rfl) ?_
                refine x_A k148_82 (fun _ => rfl) ?_
                refine x_iast k148_83 (q := 259) (n := 40) ⟨by decide, rfl⟩ (by decide) (by first | exact x_rbl b_a rfl rfl | exact ⟨by omega, by omega⟩) ?_
                refine x_nh (fun s42 e_s42 => ?_)
                have hG_s42 : GI s42 := by rw [e_s42]; exact hG_s38.up (show (-1) ≤ b ∧ b ≤ 39 from (by first | exact x_rb b_b rfl rfl | exact ⟨by omega, by omega⟩))
                have f_s42 : FL [4224, 4288] s0 s42 := by rw [e_s42]; exact f_s38.up (show 4288 ∈ [4224, 4288] from by decide)
                have q43 : s42 256 1 = z1 := by rw [e_s42, x_up_q (by decide)]; exact q39
                have q44 : s42 256 0 = z2 := by rw [e_s42, x_up_q (by decide)]; exact q40
                have q45 : s42 258 a.toNat = z2 := by rw [e_s42, x_up_q (by first | decide | omega)]; exact q41
                have q46 : s42 259 a.toNat = b := by rw [e_s42]; exact x_up_same
                have J_e : J s42 := by rw [e_s42, e_s38]; exact J.end i0_J hG0 e_z2 ⟨by omega, by omega⟩ (by omega) (by omega)
                refine x_A k148_84 (fun _ => rfl) ?_
                refine x_A k148_85 (fun _ => rfl) ?_
                refine x_A k148_86 (fun _ => rfl) ?_
                refine x_getI k148_87 (f := 0) rfl (q := 256) (n := 62) (kd := 15) ⟨by decide, rfl⟩ (by decide) rfl ?_
                refine x_rw (q44) ?_
                refine x_callV k148_90 (y := 144) (n := 2) (w0 := 0) (w1 := 2) (as := [vi a, vi z2]) (rest := []) (by decide +kernel) (q := 256) (nq := 62) (kq := 15) ⟨by decide, rfl⟩ rfl rfl rfl rfl (xe_mono (E_X11_belowMany_256 s42 hG_s42 J_e a (by first | exact x_rb b_a rfl rfl | exact ⟨by omega, by omega⟩) z2 (by first | exact x_rbe e_z2 g_z2 rfl rfl | exact x_rb g_z2 rfl rfl | exact ⟨by omega, by omega⟩)) ?_)
                rintro s48 v ⟨-, t_s48, z47, rfl, g_z47, xp_z47⟩
                rw [t_s48.nil]
                try rw [t_s48.nil] at xp_z47
                show xe none 148 93 [(0, .ref 256), (1, vi a), (2, vi b)] [vi z47] s42 0 0 _
                refine x_A k148_93 (fun _ => rfl) ?_
                refine x_isub k148_94 ?_
                refine x_top (fun z49 e_z49 => ?_)
                exact x_iret k148_95 rfl ⟨hG_s42, f_s42, z49, rfl, (by first | exact x_rbe e_z49 g_z49 rfl rfl | exact x_rb g_z49 rfl rfl | exact ⟨by omega, by omega⟩), (by unfold EnW; exact Or.inr (Or.inr ⟨by omega, by omega, fun j => by rw [e_s42, x_up_q (by decide), e_s38, x_up_at, show z2 = s0 256 0 by omega], fun j => by rw [e_s42, x_up_at, e_s38, x_up_q (by decide)]⟩)), J_e⟩
              · rw [e_z35]
                show xe none 148 60 [(0, .ref 256), (1, vi a), (2, vi b)] [vi 0] s0 0 0 _
                refine x_if_ne k148_60 (t := 67) rfl ⟨by decide, by decide⟩ (fun c50 => by exfalso; omega) (fun c50 => ?_)
                refine x_sipush k148_63 (by decide +kernel) ?_
                exact x_iret k148_66 rfl ⟨hG0, f0, (-1003), rfl, ⟨by decide, by decide⟩, (by unfold EnW; exact Or.inr (Or.inl ⟨by omega, by omega, rfl, rfl⟩)), i0_J⟩
            · rw [e_z31]
              show xe none 148 43 [(0, .ref 256), (1, vi a), (2, vi b)] [vi 0] s0 0 0 _
              refine x_if_eq k148_43 (t := 63) rfl ⟨by decide, by decide⟩ (fun c51 => ?_) (fun c51 => by exfalso; omega)
              refine x_sipush k148_63 (by decide +kernel) ?_
              exact x_iret k148_66 rfl ⟨hG0, f0, (-1003), rfl, ⟨by decide, by decide⟩, (by unfold EnW; exact Or.inr (Or.inl ⟨by omega, by omega, rfl, rfl⟩)), i0_J⟩
      · rw [e_z26]
        show xe none 148 18 [(0, .ref 256), (1, vi a), (2, vi b)] [vi 0] s0 0 0 _
        refine x_if_ne k148_18 (t := 25) rfl ⟨by decide, by decide⟩ (fun c52 => by exfalso; omega) (fun c52 => ?_)
        refine x_sipush k148_21 (by decide +kernel) ?_
        exact x_iret k148_24 rfl ⟨hG0, f0, (-1001), rfl, ⟨by decide, by decide⟩, (by unfold EnW; exact Or.inl ⟨by omega, rfl, rfl⟩), i0_J⟩
  · rw [e_z3]
    show xe none 148 5 [(0, .ref 256), (1, vi a), (2, vi b)] [vi 0] s0 0 0 _
    refine x_if_eq k148_5 (t := 21) rfl ⟨by decide, by decide⟩ (fun c53 => ?_) (fun c53 => by exfalso; omega)
    refine x_sipush k148_21 (by decide +kernel) ?_
    exact x_iret k148_24 rfl ⟨hG0, f0, (-1001), rfl, ⟨by decide, by decide⟩, (by unfold EnW; exact Or.inl ⟨by omega, rfl, rfl⟩), i0_J⟩
set_option maxHeartbeats 8000000 in
theorem V_X2_add_50 (s0 : xS) (hG0 : GI s0) (a : Int) (b_a : 0 ≤ a ∧ a ≤ 39) (b : Int) (b_b : 0 ≤ b ∧ b ≤ 39) (d : Int) (b_d : 0 ≤ d ∧ d ≤ 7) (e : Int) (b_e : 0 ≤ e ∧ e ≤ 63) (g : Int) (b_g : 0 ≤ g ∧ g ≤ 9) (p_50_6 : 0 ≤ s0 50 6 ∧ s0 50 6 ≤ 120) : xe none 25 0 (lv_args 0 [.ref 50, vi a, vi b, vi d, vi e, vi g]) [] s0 0 0 (fun s' v => GI s' ∧ FL [711, 768, 832, 896, 960, 1024, 1152] s0 s' ∧ ∃ z, v = some (vi z) ∧ ((-1004) ≤ z ∧ z ≤ 119) ∧ (((120 ≤ s0 50 6 ∧ z = -1004 ∧ s' 50 6 = s0 50 6 ∧ s' 53 = s0 53 ∧ ∀ r j : Nat, 57 ≤ r → r ≤ 176 → s' r j = s0 r j) ∨ (s0 50 6 < 120 ∧ z = s0 50 6 ∧ s' 50 6 = s0 50 6 + 1 ∧ (∀ j : Nat, s' 53 j = if j = (s0 50 6).toNat then d else s0 53 j) ∧ ∀ r j : Nat, 57 ≤ r → r ≤ 176 → s' r j = if r = 56 + 1 + (s0 50 6).toNat ∧ (j : Int) < 8 then -1 else s0 r j)) ∧ GiX s0 s' a b e g z)) := by
  have f0 : FL [711, 768, 832, 896, 960, 1024, 1152] s0 s0 := FL.rf
  show xe none 25 0 [(0, .ref 50), (1, vi a), (2, vi b), (3, vi d), (4, vi e), (5, vi g)] [] s0 0 0 _
  obtain ⟨z1, e_z1⟩ : ∃ z, z = s0 50 6 := ⟨_, rfl⟩
  have g_z1 : (0 : Int) ≤ s0 50 6 ∧ s0 50 6 ≤ 120 := hG0 50 6
  refine x_A k25_0 (fun _ => rfl) ?_
  refine x_getI k25_1 (f := 6) rfl (q := 50) (n := 7) (kd := 6) ⟨by decide, rfl⟩ (by decide) rfl ?_
  refine x_rw (e_z1.symm) ?_
  refine x_istore k25_4 (ls' := [(6, vi z1), (0, .ref 50), (1, vi a), (2, vi b), (3, vi d), (4, vi e), (5, vi g)]) (by decide) rfl ?_
  refine x_A k25_6 (fun _ => rfl) ?_
  refine x_bipush k25_8 (by decide +kernel) ?_
  refine x_ic_lt k25_10 (t := 17) rfl (by first | exact x_rbe e_z1 g_z1 rfl rfl | exact x_rb g_z1 rfl rfl | exact ⟨by omega, by omega⟩) ⟨by decide, by decide⟩ (fun c2 => ?_) (fun c2 => ?_)
  · skip
    refine x_A k25_17 (fun _ => rfl) ?_
    refine x_getR k25_18 (f := 0) rfl (q := 50) (n := 7) (kd := 6) ⟨by decide, rfl⟩ (q2 := 51) (by decide) rfl ?_
    refine x_A k25_21 (fun _ => rfl) ?_
    refine x_A k25_23 (fun _ => rfl) ?_
    refine x_iast k25_24 (q := 51) (n := 120) ⟨by decide, rfl⟩ (by decide) (by first | exact x_rbel e_z1 g_z1 rfl rfl | exact x_rbl g_z1 rfl rfl | exact ⟨by omega, by omega⟩) ?_
    refine x_nh (fun s3 e_s3 => ?_)
    have hG_s3 : GI s3 := by rw [e_s3]; exact hG0.up (show 0 ≤ a ∧ a ≤ 39 from (by first | exact x_rb b_a rfl rfl | exact ⟨by omega, by omega⟩))
    have f_s3 : FL [711, 768, 832, 896, 960, 1024, 1152] s0 s3 := by rw [e_s3]; exact f0.up (show 768 ∈ [711, 768, 832, 896, 960, 1024, 1152] from by decide)
    have q4 : s3 50 6 = z1 := by rw [e_s3, x_up_q (by decide)]; exact e_z1.symm
    have q5 : s3 51 z1.toNat = a := by rw [e_s3]; exact x_up_same
    refine x_A k25_25 (fun _ => rfl) ?_
    refine x_getR k25_26 (f := 1) rfl (q := 50) (n := 7) (kd := 6) ⟨by decide, rfl⟩ (q2 := 52) (by decide) rfl ?_
    refine x_A k25_29 (fun _ => rfl) ?_
    refine x_A k25_31 (fun _ => rfl) ?_
    refine x_iast k25_32 (q := 52) (n := 120) ⟨by decide, rfl⟩ (by decide) (by first | exact x_rbel e_z1 g_z1 rfl rfl | exact x_rbl g_z1 rfl rfl | exact ⟨by omega, by omega⟩) ?_
    refine x_nh (fun s6 e_s6 => ?_)
    have hG_s6 : GI s6 := by rw [e_s6]; exact hG_s3.up (show 0 ≤ b ∧ b ≤ 39 from (by first | exact x_rb b_b rfl rfl | exact ⟨by omega, by omega⟩))
    have f_s6 : FL [711, 768, 832, 896, 960, 1024, 1152] s0 s6 := by rw [e_s6]; exact f_s3.up (show 832 ∈ [711, 768, 832, 896, 960, 1024, 1152] from by decide)
    have q7 : s6 50 6 = z1 := by rw [e_s6, x_up_q (by decide)]; exact q4
    have q8 : s6 51 z1.toNat = a := by rw [e_s6, x_up_q (by first | decide | omega)]; exact q5
    have q9 : s6 52 z1.toNat = b := by rw [e_s6]; exact x_up_same
    refine x_A k25_33 (fun _ => rfl) ?_
    refine x_getR k25_34 (f := 2) rfl (q := 50) (n := 7) (kd := 6) ⟨by decide, rfl⟩ (q2 := 53) (by decide) rfl ?_
    refine x_A k25_37 (fun _ => rfl) ?_
    refine x_A k25_39 (fun _ => rfl) ?_
    refine x_iast k25_40 (q := 53) (n := 120) ⟨by decide, rfl⟩ (by decide) (by first | exact x_rbel e_z1 g_z1 rfl rfl | exact x_rbl g_z1 rfl rfl | exact ⟨by omega, by omega⟩) ?_
    refine x_nh (fun s10 e_s10 => ?_)
    have hG_s10 : GI s10 := by rw [e_s10]; exact hG_s6.up (show 0 ≤ d ∧ d ≤ 7 from (by first | exact x_rb b_d rfl rfl | exact ⟨by omega, by omega⟩))
    have f_s10 : FL [711, 768, 832, 896, 960, 1024, 1152] s0 s10 := by rw [e_s10]; exact f_s6.up (show 896 ∈ [711, 768, 832, 896, 960, 1024, 1152] from by decide)
    have q11 : s10 50 6 = z1 := by rw [e_s10, x_up_q (by decide)]; exact q7
    have q12 : s10 51 z1.toNat = a := by rw [e_s10, x_up_q (by first | decide | omega)]; exact q8
    have q13 : s10 52 z1.toNat = b := by rw [e_s10, x_up_q (by first | decide | omega)]; exact q9
    have q14 : s10 53 z1.toNat = d := by rw [e_s10]; exact x_up_same
    refine x_A k25_41 (fun _ => rfl) ?_
    refine x_getR k25_42 (f := 3) rfl (q := 50) (n := 7) (kd := 6) ⟨by decide, rfl⟩ (q2 := 54) (by decide) rfl ?_
    refine x_A k25_45 (fun _ => rfl) ?_
    refine x_A k25_47 (fun _ => rfl) ?_
    refine x_iast k25_49 (q := 54) (n := 120) ⟨by decide, rfl⟩ (by decide) (by first | exact x_rbel e_z1 g_z1 rfl rfl | exact x_rbl g_z1 rfl rfl | exact ⟨by omega, by omega⟩) ?_
    refine x_nh (fun s15 e_s15 => ?_)
    have hG_s15 : GI s15 := by rw [e_s15]; exact hG_s10.up (show 0 ≤ e ∧ e ≤ 63 from (by first | exact x_rb b_e rfl rfl | exact ⟨by omega, by omega⟩))
    have f_s15 : FL [711, 768, 832, 896, 960, 1024, 1152] s0 s15 := by rw [e_s15]; exact f_s10.up (show 960 ∈ [711, 768, 832, 896, 960, 1024, 1152] from by decide)
    have q16 : s15 50 6 = z1 := by rw [e_s15, x_up_q (by decide)]; exact q11
    have q17 : s15 51 z1.toNat = a := by rw [e_s15, x_up_q (by first | decide | omega)]; exact q12
    have q18 : s15 52 z1.toNat = b := by rw [e_s15, x_up_q (by first | decide | omega)]; exact q13
    have q19 : s15 53 z1.toNat = d := by rw [e_s15, x_up_q (by first | decide | omega)]; exact q14
    have q20 : s15 54 z1.toNat = e := by rw [e_s15]; exact x_up_same
    refine x_A k25_50 (fun _ => rfl) ?_
    refine x_getR k25_51 (f := 4) rfl (q := 50) (n := 7) (kd := 6) ⟨by decide, rfl⟩ (q2 := 55) (by decide) rfl ?_
    refine x_A k25_54 (fun _ => rfl) ?_
    refine x_A k25_56 (fun _ => rfl) ?_
    refine x_iast k25_58 (q := 55) (n := 120) ⟨by decide, rfl⟩ (by decide) (by first | exact x_rbel e_z1 g_z1 rfl rfl | exact x_rbl g_z1 rfl rfl | exact ⟨by omega, by omega⟩) ?_
    refine x_nh (fun s21 e_s21 => ?_)
    have hG_s21 : GI s21 := by rw [e_s21]; exact hG_s15.up (show 0 ≤ g ∧ g ≤ 9 from (by first | exact x_rb b_g rfl rfl | exact ⟨by omega, by omega⟩))
    have f_s21 : FL [711, 768, 832, 896, 960, 1024, 1152] s0 s21 := by rw [e_s21]; exact f_s15.up (show 1024 ∈ [711, 768, 832, 896, 960, 1024, 1152] from by decide)
    have q22 : s21 50 6 = z1 := by rw [e_s21, x_up_q (by decide)]; exact q16
    have q23 : s21 51 z1.toNat = a := by rw [e_s21, x_up_q (by first | decide | omega)]; exact q17
    have q24 : s21 52 z1.toNat = b := by rw [e_s21, x_up_q (by first | decide | omega)]; exact q18
    have q25 : s21 53 z1.toNat = d := by rw [e_s21, x_up_q (by first | decide | omega)]; exact q19
    have q26 : s21 54 z1.toNat = e := by rw [e_s21, x_up_q (by first | decide | omega)]; exact q20
    have q27 : s21 55 z1.toNat = g := by rw [e_s21]; exact x_up_same
    refine x_A k25_59 (fun _ => rfl) ?_
    refine x_getR k25_60 (f := 5) rfl (q := 50) (n := 7) (kd := 6) ⟨by decide, rfl⟩ (q2 := 56) (by decide) rfl ?_
    refine x_A k25_63 (fun _ => rfl) ?_
    refine x_aald k25_65 (q := 56) (t := 23) (n := 120) ⟨by decide, rfl⟩ (by decide) (by decide) ⟨by omega, by omega⟩ ?_
    refine x_A k25_66 (fun _ => rfl) ?_
    refine x_callS k25_67 (y := 229) (n := 2) (w0 := 0) (w1 := 2) (as := [.ref (56 + 1 + z1.toNat), vi (-1)]) (rest := []) (by decide +kernel) rfl rfl rfl rfl (xe_mono (E_J7_fill_53178_g57 s21 hG_s21 (56 + 1 + z1.toNat) ⟨by omega, by omega⟩ (-1) ⟨by decide, by decide⟩) ?_)
    rintro s29 v ⟨hG_s29, t_s29, rfl, xp_z28⟩
    have f_s29 : FL [711, 768, 832, 896, 960, 1024, 1152] s0 s29 := f_s21.tr t_s29 (by decide)
    have q30 : s29 50 6 = z1 := (t_s29 50 6 (show 711 ∉ [1152] from by decide)).trans q22
    have q31 : s29 51 z1.toNat = a := (t_s29 51 z1.toNat (show 768 ∉ [1152] from by decide)).trans q23
    have q32 : s29 52 z1.toNat = b := (t_s29 52 z1.toNat (show 832 ∉ [1152] from by decide)).trans q24
    have q33 : s29 53 z1.toNat = d := (t_s29 53 z1.toNat (show 896 ∉ [1152] from by decide)).trans q25
    have q34 : s29 54 z1.toNat = e := (t_s29 54 z1.toNat (show 960 ∉ [1152] from by decide)).trans q26
    have q35 : s29 55 z1.toNat = g := (t_s29 55 z1.toNat (show 1024 ∉ [1152] from by decide)).trans q27
    show xe none 25 70 [(6, vi z1), (0, .ref 50), (1, vi a), (2, vi b), (3, vi d), (4, vi e), (5, vi g)] [] s29 0 0 _
    refine x_A k25_70 (fun _ => rfl) ?_
    refine x_A k25_71 (fun _ => rfl) ?_
    refine x_getI k25_72 (f := 6) rfl (q := 50) (n := 7) (kd := 6) ⟨by decide, rfl⟩ (by decide) rfl ?_
    refine x_rw (q30) ?_
    refine x_A k25_75 (fun _ => rfl) ?_
    refine x_iadd k25_76 ?_
    refine x_top (fun z36 e_z36 => ?_)
    refine x_putI k25_77 (f := 6) rfl (q := 50) (n := 7) (kd := 6) ⟨by decide, rfl⟩ rfl rfl rfl ?_
    refine x_nh (fun s37 e_s37 => ?_)
    have hG_s37 : GI s37 := by rw [e_s37]; exact hG_s29.up (show 0 ≤ z36 ∧ z36 ≤ 120 from (by first | exact x_rbe e_z36 g_z36 rfl rfl | exact x_rb g_z36 rfl rfl | exact ⟨by omega, by omega⟩))
    have f_s37 : FL [711, 768, 832, 896, 960, 1024, 1152] s0 s37 := by rw [e_s37]; exact f_s29.up (show 711 ∈ [711, 768, 832, 896, 960, 1024, 1152] from by decide)
    have q38 : s37 50 6 = z36 := by rw [e_s37]; exact x_up_same
    have q39 : s37 51 z1.toNat = a := by rw [e_s37, x_up_q (by first | decide | omega)]; exact q31
    have q40 : s37 52 z1.toNat = b := by rw [e_s37, x_up_q (by first | decide | omega)]; exact q32
    have q41 : s37 53 z1.toNat = d := by rw [e_s37, x_up_q (by first | decide | omega)]; exact q33
    have q42 : s37 54 z1.toNat = e := by rw [e_s37, x_up_q (by first | decide | omega)]; exact q34
    have q43 : s37 55 z1.toNat = g := by rw [e_s37, x_up_q (by first | decide | omega)]; exact q35
    refine x_A k25_80 (fun _ => rfl) ?_
    exact x_iret k25_82 rfl ⟨hG_s37, f_s37, z1, rfl, (by first | exact x_rbe e_z1 g_z1 rfl rfl | exact x_rb g_z1 rfl rfl | exact ⟨by omega, by omega⟩), ⟨Or.inr ⟨by omega, by omega, by omega, fun j => by rw [e_s37, x_up_q (by decide), t_s29 53 j (show 896 ∉ _ from by decide), e_s21, x_up_q (by decide), e_s15, x_up_q (by decide), e_s10, x_up_at, e_s6, x_up_q (by decide), e_s3, x_up_q (by decide), show z1 = s0 50 6 by omega], fun r j h1 h2 => by rw [e_s37, x_up_q (by omega), xp_z28 r j h1 h2, e_s21, x_up_q (by omega), e_s15, x_up_q (by omega), e_s10, x_up_q (by omega), e_s6, x_up_q (by omega), e_s3, x_up_q (by omega), show z1 = s0 50 6 by omega]⟩, fun q => by exfalso; omega, fun _ j => ⟨by rw [e_s37, x_up_q (by decide), t_s29 51 j (show 768 ∉ _ from by decide), e_s21, x_up_q (by decide), e_s15, x_up_q (by decide), e_s10, x_up_q (by decide), e_s6, x_up_q (by decide), e_s3, x_up_at], by rw [e_s37, x_up_q (by decide), t_s29 52 j (show 832 ∉ _ from by decide), e_s21, x_up_q (by decide), e_s15, x_up_q (by decide), e_s10, x_up_q (by decide), e_s6, x_up_at, e_s3, x_up_q (by decide)], by rw [e_s37, x_up_q (by decide), t_s29 54 j (show 960 ∉ _ from by decide), e_s21, x_up_q (by decide), e_s15, x_up_at, e_s10, x_up_q (by decide), e_s6, x_up_q (by decide), e_s3, x_up_q (by decide)], by rw [e_s37, x_up_q (by decide), t_s29 55 j (show 1024 ∉ _ from by decide), e_s21, x_up_at, e_s15, x_up_q (by decide), e_s10, x_up_q (by decide), e_s6, x_up_q (by decide), e_s3, x_up_q (by decide)]⟩⟩⟩
  · skip
    refine x_sipush k25_13 (by decide +kernel) ?_
    exact x_iret k25_16 rfl ⟨hG0, f0, (-1004), rfl, ⟨by decide, by decide⟩, ⟨Or.inl ⟨by omega, rfl, rfl, rfl, fun _ _ _ _ => rfl⟩, fun _ => ⟨rfl, rfl, rfl, rfl⟩, fun q => by exfalso; omega⟩⟩
set_option maxHeartbeats 8000000 in
theorem V_X10_give_0 (s0 : xS) (hG0 : GI s0) (a : Int) (b_a : (-2147483648) ≤ a ∧ a ≤ 2147483647) (b : Int) (b_b : (-2147483648) ≤ b ∧ b ≤ 2147483647) (d : Int) (b_d : (-2147483648) ≤ d ∧ d ≤ 2147483647) (e : Int) (b_e : (-2147483648) ≤ e ∧ e ≤ 2147483647) (p_50_6 : 0 ≤ s0 50 6 ∧ s0 50 6 ≤ 120) (p_46_3 : 0 ≤ s0 46 3 ∧ s0 46 3 ≤ 40) (p_1_4 : 1 ≤ s0 1 4 ∧ s0 1 4 ≤ 40) (p_0_10 : 0 ≤ s0 0 10 ∧ s0 0 10 ≤ 9) (i0_VCj : VCj s0) (i0_VCl : VCl s0) : xe none 98 0 (lv_args 0 [.ref 0, vi a, vi b, vi d, vi e]) [] s0 0 0 (fun s' v => GI s' ∧ FL [711, 768, 832, 896, 960, 1024, 1152, 3276, 3277] s0 s' ∧ ∃ z, v = some (vi z) ∧ ((-1004) ≤ z ∧ z ≤ 119) ∧ (GiC s0 s' a b d e z ∧ GiX s0 s' a b e (s0 0 10) z) ∧ VCj s' ∧ VCl s') := by
  have f0 : FL [711, 768, 832, 896, 960, 1024, 1152, 3276, 3277] s0 s0 := FL.rf
  show xe none 98 0 [(0, .ref 0), (1, vi a), (2, vi b), (3, vi d), (4, vi e)] [] s0 0 0 _
  obtain ⟨z1, e_z1⟩ : ∃ z, z = s0 50 6 := ⟨_, rfl⟩
  have g_z1 : (0 : Int) ≤ s0 50 6 ∧ s0 50 6 ≤ 120 := hG0 50 6
  obtain ⟨z2, e_z2⟩ : ∃ z, z = s0 46 3 := ⟨_, rfl⟩
  have g_z2 : (0 : Int) ≤ s0 46 3 ∧ s0 46 3 ≤ 40 := hG0 46 3
  obtain ⟨z3, e_z3⟩ : ∃ z, z = s0 1 4 := ⟨_, rfl⟩
  have g_z3 : (1 : Int) ≤ s0 1 4 ∧ s0 1 4 ≤ 40 := hG0 1 4
  obtain ⟨z4, e_z4⟩ : ∃ z, z = s0 0 10 := ⟨_, rfl⟩
  have g_z4 : (0 : Int) ≤ s0 0 10 ∧ s0 0 10 ≤ 9 := hG0 0 10
  refine x_A k98_0 (fun _ => rfl) ?_
  refine x_getR k98_1 (f := 1) rfl (q := 0) (n := 12) (kd := 3) ⟨by decide, rfl⟩ (q2 := 46) (by decide) rfl ?_
  refine x_A k98_4 (fun _ => rfl) ?_
  refine x_callV k98_5 (y := 29) (n := 1) (w0 := 0) (w1 := 1) (as := [vi a]) (rest := []) (by decide +kernel) (q := 46) (nq := 4) (kq := 5) ⟨by decide, rfl⟩ rfl rfl rfl rfl (xe_mono (C_X3_has_46 s0 hG0 a (by first | exact x_rb b_a rfl rfl | exact ⟨by omega, by omega⟩)) ?_)
  rintro s6 v ⟨h_s6, z5, rfl, hz_z5⟩
  rw [h_s6]
  rcases hz_z5 with ⟨c_z5, e_z5⟩ | ⟨c_z5, e_z5⟩
  · rw [e_z5]
    show xe none 98 8 [(0, .ref 0), (1, vi a), (2, vi b), (3, vi d), (4, vi e)] [vi 1] s0 0 0 _
    refine x_if_eq k98_8 (t := 22) rfl ⟨by decide, by decide⟩ (fun c7 => by exfalso; omega) (fun c7 => ?_)
    refine x_A k98_11 (fun _ => rfl) ?_
    refine x_getR k98_12 (f := 0) rfl (q := 0) (n := 12) (kd := 3) ⟨by decide, rfl⟩ (q2 := 1) (by decide) rfl ?_
    refine x_A k98_15 (fun _ => rfl) ?_
    refine x_callV k98_16 (y := 59) (n := 1) (w0 := 0) (w1 := 1) (as := [vi b]) (rest := []) (by decide +kernel) (q := 1) (nq := 5) (kq := 4) ⟨by decide, rfl⟩ rfl rfl rfl rfl (xe_mono (C_X7_has_1 s0 hG0 b (by first | exact x_rb b_b rfl rfl | exact ⟨by omega, by omega⟩)) ?_)
    rintro s9 v ⟨h_s9, z8, rfl, hz_z8⟩
    rw [h_s9]
    rcases hz_z8 with ⟨c_z8, e_z8⟩ | ⟨c_z8, e_z8⟩
    · rw [e_z8]
      show xe none 98 19 [(0, .ref 0), (1, vi a), (2, vi b), (3, vi d), (4, vi e)] [vi 1] s0 0 0 _
      refine x_if_ne k98_19 (t := 26) rfl ⟨by decide, by decide⟩ (fun c10 => ?_) (fun c10 => by exfalso; omega)
      refine x_A k98_26 (fun _ => rfl) ?_
      refine x_callS k98_27 (y := 123) (n := 1) (w0 := 0) (w1 := 1) (as := [vi d]) (rest := []) (by decide +kernel) rfl rfl rfl rfl (xe_mono (C_X10_isHand s0 hG0 d (by first | exact x_rb b_d rfl rfl | exact ⟨by omega, by omega⟩)) ?_)
      rintro s12 v ⟨h_s12, z11, rfl, hz_z11⟩
      rw [h_s12]
      rcases hz_z11 with ⟨c_z11, e_z11⟩ | ⟨c_z11, e_z11⟩
      · rw [e_z11]
        show xe none 98 30 [(0, .ref 0), (1, vi a), (2, vi b), (3, vi d), (4, vi e)] [vi 1] s0 0 0 _
        refine x_if_eq k98_30 (t := 44) rfl ⟨by decide, by decide⟩ (fun c13 => by exfalso; omega) (fun c13 => ?_)
        refine x_A k98_33 (fun _ => rfl) ?_
        refine x_A k98_35 (fun _ => rfl) ?_
        refine x_bipush k98_36 (by decide +kernel) ?_
        refine x_callS k98_38 (y := 121) (n := 3) (w0 := 0) (w1 := 3) (as := [vi e, vi 0, vi 63]) (rest := []) (by decide +kernel) rfl rfl rfl rfl (xe_mono (C_X10_isWithin s0 hG0 e (by first | exact x_rb b_e rfl rfl | exact ⟨by omega, by omega⟩) 0 ⟨by decide, by decide⟩ 63 ⟨by decide, by decide⟩) ?_)
        rintro s15 v ⟨h_s15, z14, rfl, hz_z14⟩
        rw [h_s15]
        rcases hz_z14 with ⟨c_z14, e_z14⟩ | ⟨c_z14, e_z14⟩
        · rw [e_z14]
          show xe none 98 41 [(0, .ref 0), (1, vi a), (2, vi b), (3, vi d), (4, vi e)] [vi 1] s0 0 0 _
          refine x_if_ne k98_41 (t := 48) rfl ⟨by decide, by decide⟩ (fun c16 => ?_) (fun c16 => by exfalso; omega)
          refine x_A k98_48 (fun _ => rfl) ?_
          refine x_getR k98_49 (f := 9) rfl (q := 0) (n := 12) (kd := 3) ⟨by decide, rfl⟩ (q2 := 243) (by decide) rfl ?_
          refine x_callV k98_52 (y := 73) (n := 0) (w0 := 0) (w1 := 0) (as := []) (rest := []) (by decide +kernel) (q := 243) (nq := 13) (kq := 13) ⟨by decide, rfl⟩ rfl rfl rfl rfl (xe_mono (E_X8_forget_243 s0 hG0) ?_)
          rintro s18 v ⟨hG_s18, t_s18, rfl, xp_z17⟩
          have f_s18 : FL [711, 768, 832, 896, 960, 1024, 1152, 3276, 3277] s0 s18 := f0.tr t_s18 (by decide)
          have q19 : s18 50 6 = z1 := (t_s18 50 6 (show 711 ∉ [3276, 3277] from by decide)).trans e_z1.symm
          have q20 : s18 46 3 = z2 := (t_s18 46 3 (show 452 ∉ [3276, 3277] from by decide)).trans e_z2.symm
          have q21 : s18 1 4 = z3 := (t_s18 1 4 (show 69 ∉ [3276, 3277] from by decide)).trans e_z3.symm
          have q22 : s18 0 10 = z4 := (t_s18 0 10 (show 11 ∉ [3276, 3277] from by decide)).trans e_z4.symm
          obtain ⟨z23, e_z23⟩ : ∃ z, z = s18 243 11 := ⟨_, rfl⟩
          have g_z23 : (0 : Int) ≤ s18 243 11 ∧ s18 243 11 ≤ 1 := hG_s18 243 11
          obtain ⟨z24, e_z24⟩ : ∃ z, z = s18 243 12 := ⟨_, rfl⟩
          have g_z24 : (-1) ≤ s18 243 12 ∧ s18 243 12 ≤ 9 := hG_s18 243 12
          show xe none 98 55 [(0, .ref 0), (1, vi a), (2, vi b), (3, vi d), (4, vi e)] [] s18 0 0 _
          refine x_A k98_55 (fun _ => rfl) ?_
          refine x_getR k98_56 (f := 2) rfl (q := 0) (n := 12) (kd := 3) ⟨by decide, rfl⟩ (q2 := 50) (by decide) rfl ?_
          refine x_A k98_59 (fun _ => rfl) ?_
          refine x_A k98_60 (fun _ => rfl) ?_
          refine x_A k98_61 (fun _ => rfl) ?_
          refine x_A k98_62 (fun _ => rfl) ?_
          refine x_A k98_64 (fun _ => rfl) ?_
          refine x_getI k98_65 (f := 10) rfl (q := 0) (n := 12) (kd := 3) ⟨by decide, rfl⟩ (by decide) rfl ?_
          refine x_rw (q22) ?_
          refine x_callV k98_68 (y := 25) (n := 5) (w0 := 0) (w1 := 5) (as := [vi a, vi b, vi d, vi e, vi z4]) (rest := []) (by decide +kernel) (q := 50) (nq := 7) (kq := 6) ⟨by decide, rfl⟩ rfl rfl rfl rfl (xe_mono (V_X2_add_50 s18 hG_s18 a (by first | exact x_rb b_a rfl rfl | exact ⟨by omega, by omega⟩) b (by first | exact x_rb b_b rfl rfl | exact ⟨by omega, by omega⟩) d (by first | exact x_rb b_d rfl rfl | exact ⟨by omega, by omega⟩) e (by first | exact x_rb b_e rfl rfl | exact ⟨by omega, by omega⟩) z4 (by first | exact x_rbe e_z4 g_z4 rfl rfl | exact x_rb g_z4 rfl rfl | exact ⟨by omega, by omega⟩) ⟨by omega, by omega⟩) ?_)
          rintro s26 v ⟨hG_s26, t_s26, z25, rfl, g_z25, xp_z25⟩
          have f_s26 : FL [711, 768, 832, 896, 960, 1024, 1152, 3276, 3277] s0 s26 := f_s18.tr t_s26 (by decide)
          have q27 : s26 46 3 = z2 := (t_s26 46 3 (show 452 ∉ [711, 768, 832, 896, 960, 1024, 1152] from by decide)).trans q20
          have q28 : s26 1 4 = z3 := (t_s26 1 4 (show 69 ∉ [711, 768, 832, 896, 960, 1024, 1152] from by decide)).trans q21
          have q29 : s26 0 10 = z4 := (t_s26 0 10 (show 11 ∉ [711, 768, 832, 896, 960, 1024, 1152] from by decide)).trans q22
          have q30 : s26 243 11 = z23 := (t_s26 243 11 (show 3276 ∉ [711, 768, 832, 896, 960, 1024, 1152] from by decide)).trans e_z23.symm
          have q31 : s26 243 12 = z24 := (t_s26 243 12 (show 3277 ∉ [711, 768, 832, 896, 960, 1024, 1152] from by decide)).trans e_z24.symm
          obtain ⟨z32, e_z32⟩ : ∃ z, z = s26 50 6 := ⟨_, rfl⟩
          have g_z32 : (0 : Int) ≤ s26 50 6 ∧ s26 50 6 ≤ 120 := hG_s26 50 6
          show xe none 98 71 [(0, .ref 0), (1, vi a), (2, vi b), (3, vi d), (4, vi e)] [vi z25] s26 0 0 _
          have FH : s18 53 = s0 53 := funext fun i => t_s18 53 i (show 896 ∉ _ from by decide)
          have FR := rows120 t_s18 (by decide)
          have VCj_r : VCj s26 := (VCj.no (show s26 243 11 = 0 by omega))
          have VCl_r : VCl s26 := (VCl.no (show s26 243 12 = -1 by omega))
          exact x_iret k98_71 rfl ⟨hG_s26, f_s26, z25, rfl, (by first | exact x_rbe e_z25 g_z25 rfl rfl | exact x_rb g_z25 rfl rfl | exact ⟨by omega, by omega⟩), ⟨(by unfold GiC; exact xp_z25.1.elim (fun ⟨u1, u2, u3, u4, u5⟩ => Or.inr (Or.inr (Or.inl ⟨by omega, by omega, by omega, by omega, by omega, u4.trans FH, fun r j h1 h2 => (u5 r j h1 h2).trans (FR r j h1 h2)⟩))) (fun ⟨u1, u2, u3, u4, u5⟩ => Or.inr (Or.inr (Or.inr ⟨by omega, by omega, by omega, by omega, by omega, fun j => by rw [u4, FH, show s18 50 6 = s0 50 6 by omega], fun r j h1 h2 => by rw [u5 r j h1 h2, FR r j h1 h2, show s18 50 6 = s0 50 6 by omega]⟩)))), xp_z25.2.pre t_s18 (by decide) (by omega)⟩, VCj_r, VCl_r⟩
        · rw [e_z14]
          show xe none 98 41 [(0, .ref 0), (1, vi a), (2, vi b), (3, vi d), (4, vi e)] [vi 0] s0 0 0 _
          refine x_if_ne k98_41 (t := 48) rfl ⟨by decide, by decide⟩ (fun c33 => by exfalso; omega) (fun c33 => ?_)
          refine x_sipush k98_44 (by decide +kernel) ?_
          exact x_iret k98_47 rfl ⟨hG0, f0, (-1002), rfl, ⟨by decide, by decide⟩, ⟨(by unfold GiC; exact Or.inr (Or.inl ⟨by omega, by omega, rfl, rfl, rfl, fun _ _ _ _ => rfl⟩)), fun _ => ⟨rfl, rfl, rfl, rfl⟩, fun q => by exfalso; omega⟩, i0_VCj, i0_VCl⟩
      · rw [e_z11]
        show xe none 98 30 [(0, .ref 0), (1, vi a), (2, vi b), (3, vi d), (4, vi e)] [vi 0] s0 0 0 _
        refine x_if_eq k98_30 (t := 44) rfl ⟨by decide, by decide⟩ (fun c34 => ?_) (fun c34 => by exfalso; omega)
        refine x_sipush k98_44 (by decide +kernel) ?_
        exact x_iret k98_47 rfl ⟨hG0, f0, (-1002), rfl, ⟨by decide, by decide⟩, ⟨(by unfold GiC; exact Or.inr (Or.inl ⟨by omega, by omega, rfl, rfl, rfl, fun _ _ _ _ => rfl⟩)), fun _ => ⟨rfl, rfl, rfl, rfl⟩, fun q => by exfalso; omega⟩, i0_VCj, i0_VCl⟩
    · rw [e_z8]
      show xe none 98 19 [(0, .ref 0), (1, vi a), (2, vi b), (3, vi d), (4, vi e)] [vi 0] s0 0 0 _
      refine x_if_ne k98_19 (t := 26) rfl ⟨by decide, by decide⟩ (fun c35 => by exfalso; omega) (fun c35 => ?_)
      refine x_sipush k98_22 (by decide +kernel) ?_
      exact x_iret k98_25 rfl ⟨hG0, f0, (-1001), rfl, ⟨by decide, by decide⟩, ⟨(by unfold GiC; exact Or.inl ⟨by omega, rfl, rfl, rfl, fun _ _ _ _ => rfl⟩), fun _ => ⟨rfl, rfl, rfl, rfl⟩, fun q => by exfalso; omega⟩, i0_VCj, i0_VCl⟩
  · rw [e_z5]
    show xe none 98 8 [(0, .ref 0), (1, vi a), (2, vi b), (3, vi d), (4, vi e)] [vi 0] s0 0 0 _
    refine x_if_eq k98_8 (t := 22) rfl ⟨by decide, by decide⟩ (fun c36 => ?_) (fun c36 => by exfalso; omega)
    refine x_sipush k98_22 (by decide +kernel) ?_
    exact x_iret k98_25 rfl ⟨hG0, f0, (-1001), rfl, ⟨by decide, by decide⟩, ⟨(by unfold GiC; exact Or.inl ⟨by omega, rfl, rfl, rfl, fun _ _ _ _ => rfl⟩), fun _ => ⟨rfl, rfl, rfl, rfl⟩, fun q => by exfalso; omega⟩, i0_VCj, i0_VCl⟩
set_option maxHeartbeats 8000000 in
theorem L_V_X11_give_256_114 (s0 : xS) (a : Int) (b_a : (-2147483648) ≤ a ∧ a ≤ 2147483647) (b : Int) (b_b : (-2147483648) ≤ b ∧ b ≤ 2147483647) (d : Int) (b_d : (-2147483648) ≤ d ∧ d ≤ 2147483647) (e : Int) (b_e : (-2147483648) ≤ e ∧ e ≤ 2147483647)  : ∀ (n : Nat) (s : xS) (x1 : Int) (x2 : Int) (x3 : Int) (x4 : Int) (x5 : Int) (x1000 : Int) (hG : GI s) (f : FL [4107, 4608, 4672, 4736, 4800, 4864, 4928] s0 s) (b_x1 : 0 ≤ x1 ∧ x1 ≤ 39) (b_x2 : 0 ≤ x2 ∧ x2 ≤ 39) (b_x3 : 0 ≤ x3 ∧ x3 ≤ 7) (b_x4 : 0 ≤ x4 ∧ x4 ≤ 63) (b_x5 : 0 ≤ x5 ∧ x5 ≤ 8) (b_x1000 : 0 ≤ x1000 ∧ x1000 ≤ 119) (w_0 : x1000 = s0 256 10) (w_1 : 0 ≤ a ∧ a < s0 256 6 ∧ 0 ≤ b ∧ b < s0 256 1) (w_2 : 0 ≤ d ∧ d ≤ 7 ∧ 0 ≤ e ∧ e ≤ 63) (w_3 : x1000 < 120) (w_4 : ∀ j : Nat, s 266 j = if j = (s0 256 10).toNat then d else s0 266 j) (w_5 : ∀ j : Nat, s 269 j = if 8 * s0 256 10 ≤ (j : Int) ∧ (j : Int) < 8 * s0 256 10 + x5 then -1 else s0 269 j) (w_6 : ∀ j : Nat, s 264 j = if j = (s0 256 10).toNat then a else s0 264 j) (w_7 : ∀ j : Nat, s 265 j = if j = (s0 256 10).toNat then b else s0 265 j) (w_8 : ∀ j : Nat, s 267 j = if j = (s0 256 10).toNat then e else s0 267 j) (w_9 : ∀ j : Nat, s 268 j = if j = (s0 256 10).toNat then s0 256 0 else s0 268 j) (e_x1000 : x1000 = s 256 10)  (hm : (8 - x5) < (n : Int)), xe none 155 114 [(0, .ref 256), (1, vi x1), (2, vi x2), (3, vi x3), (4, vi x4), (5, vi x5)] [] s 0 0 (fun s' v => GI s' ∧ FL [4107, 4608, 4672, 4736, 4800, 4864, 4928] s0 s' ∧ ∃ z, v = some (vi z) ∧ ((-1004) ≤ z ∧ z ≤ 119) ∧ (GiR s0 s' a b d e z ∧ GiY s0 s' a b e (s0 256 0) z)) := by
  intro n
  induction n with
  | zero => intro s x1 x2 x3 x4 x5 x1000 hG f b_x1 b_x2 b_x3 b_x4 b_x5 b_x1000 w_0 w_1 w_2 w_3 w_4 w_5 w_6 w_7 w_8 w_9 e_x1000  hm; exfalso; omega
  | succ n ih =>
    intro s x1 x2 x3 x4 x5 x1000 hG f b_x1 b_x2 b_x3 b_x4 b_x5 b_x1000 w_0 w_1 w_2 w_3 w_4 w_5 w_6 w_7 w_8 w_9 e_x1000  hm
    refine x_A k155_114 (fun _ => rfl) ?_
    refine x_bipush k155_116 (by decide +kernel) ?_
    refine x_ic_ge k155_118 (t := 143) rfl (by first | exact x_rb b_x5 rfl rfl | exact ⟨by omega, by omega⟩) ⟨by decide, by decide⟩ (fun c551 => ?_) (fun c551 => ?_)
    · skip
      refine x_A k155_143 (fun _ => rfl) ?_
      refine x_A k155_144 (fun _ => rfl) ?_
      refine x_getI k155_145 (f := 10) rfl (q := 256) (n := 62) (kd := 15) ⟨by decide, rfl⟩ (by decide) rfl ?_
      refine x_rw (e_x1000.symm) ?_
      refine x_A k155_148 (fun _ => rfl) ?_
      refine x_iadd k155_149 ?_
      refine x_top (fun z552 e_z552 => ?_)
      refine x_putI k155_150 (f := 10) rfl (q := 256) (n := 62) (kd := 15) ⟨by decide, rfl⟩ rfl rfl rfl ?_
      refine x_nh (fun s553 e_s553 => ?_)
      have hG_s553 : GI s553 := by rw [e_s553]; exact hG.up (show 0 ≤ z552 ∧ z552 ≤ 120 from (by first | exact x_rbe e_z552 g_z552 rfl rfl | exact x_rb g_z552 rfl rfl | exact ⟨by omega, by omega⟩))
      have f_s553 : FL [4107, 4608, 4672, 4736, 4800, 4864, 4928] s0 s553 := by rw [e_s553]; exact f.up (show 4107 ∈ [4107, 4608, 4672, 4736, 4800, 4864, 4928] from by decide)
      have q554 : s553 256 10 = z552 := by rw [e_s553]; exact x_up_same
      refine x_A k155_153 (fun _ => rfl) ?_
      refine x_getI k155_154 (f := 10) rfl (q := 256) (n := 62) (kd := 15) ⟨by decide, rfl⟩ (by decide) rfl ?_
      refine x_rw (q554) ?_
      refine x_A k155_157 (fun _ => rfl) ?_
      refine x_isub k155_158 ?_
      refine x_top (fun z555 e_z555 => ?_)
      exact x_iret k155_159 rfl ⟨hG_s553, f_s553, z555, rfl, (by first | exact x_rbe e_z555 g_z555 rfl rfl | exact x_rb g_z555 rfl rfl | exact ⟨by omega, by omega⟩), ⟨(by unfold GiR; exact Or.inr (Or.inr (Or.inr ⟨by omega, by omega, by omega, by omega, by omega, fun j => by rw [e_s553, x_up_q (by decide)]; exact w_4 j, fun j => by rw [e_s553, x_up_q (by decide), w_5 j, show x5 = 8 by omega]⟩))), fun q => by exfalso; omega, fun _ j => ⟨by rw [e_s553, x_up_q (by decide), show z555 = s0 256 10 by omega]; exact w_6 j, by rw [e_s553, x_up_q (by decide), show z555 = s0 256 10 by omega]; exact w_7 j, by rw [e_s553, x_up_q (by decide), show z555 = s0 256 10 by omega]; exact w_8 j, by rw [e_s553, x_up_q (by decide), show z555 = s0 256 10 by omega]; exact w_9 j⟩⟩⟩
    · skip
      refine x_A k155_121 (fun _ => rfl) ?_
      refine x_getR k155_122 (f := 16) rfl (q := 256) (n := 62) (kd := 15) ⟨by decide, rfl⟩ (q2 := 269) (by decide) rfl ?_
      refine x_bipush k155_125 (by decide +kernel) ?_
      refine x_A k155_127 (fun _ => rfl) ?_
      refine x_getI k155_128 (f := 10) rfl (q := 256) (n := 62) (kd := 15) ⟨by decide, rfl⟩ (by decide) rfl ?_
      refine x_rw (e_x1000.symm) ?_
      refine x_imul k155_131 ?_
      refine x_top (fun z556 e_z556 => ?_)
      refine x_A k155_132 (fun _ => rfl) ?_
      refine x_iadd k155_134 ?_
      refine x_top (fun z557 e_z557 => ?_)
      refine x_A k155_135 (fun _ => rfl) ?_
      refine x_iast k155_136 (q := 269) (n := 960) ⟨by decide, rfl⟩ (by decide) (by first | exact x_rbel e_z557 g_z557 rfl rfl | exact x_rbl g_z557 rfl rfl | exact ⟨by omega, by omega⟩) ?_
      refine x_nh (fun s558 e_s558 => ?_)
      have hG_s558 : GI s558 := by rw [e_s558]; exact hG.up (show (-1) ≤ (-1) ∧ (-1) ≤ 9 from ⟨by decide, by decide⟩)
      have f_s558 : FL [4107, 4608, 4672, 4736, 4800, 4864, 4928] s0 s558 := by rw [e_s558]; exact f.up (show 4928 ∈ [4107, 4608, 4672, 4736, 4800, 4864, 4928] from by decide)
      have q559 : s558 256 10 = x1000 := by rw [e_s558, x_up_q (by decide)]; exact e_x1000.symm
      have q560 : s558 269 z557.toNat = (-1) := by rw [e_s558]; exact x_up_same
      refine x_iinc k155_137 (ls' := [(5, vi (x5 + 1)), (0, .ref 256), (1, vi x1), (2, vi x2), (3, vi x3), (4, vi x4)]) rfl (by decide) rfl ?_
      refine x_goto k155_140 (t := 114) rfl ?_
      refine x_ls (l := [(0, .ref 256), (1, vi x1), (2, vi x2), (3, vi x3), (4, vi x4), (5, vi (x5 + 1))]) (show ([0, 1, 2, 3, 4, 5] : List Nat).Nodup from by decide) ⟨rfl, rfl, rfl, rfl, rfl, rfl, trivial⟩ ?_
      exact ih s558 x1 x2 x3 x4 (x5 + 1) x1000 hG_s558 f_s558 (by first | exact x_rb b_x1 rfl rfl | exact ⟨by omega, by omega⟩) (by first | exact x_rb b_x2 rfl rfl | exact ⟨by omega, by omega⟩) (by first | exact x_rb b_x3 rfl rfl | exact ⟨by omega, by omega⟩) (by first | exact x_rb b_x4 rfl rfl | exact ⟨by omega, by omega⟩) ⟨by omega, by omega⟩ (by first | exact x_rb b_x1000 rfl rfl | exact ⟨by omega, by omega⟩) (by omega) (by omega) (by omega) (by omega) (fun j => by rw [e_s558, x_up_q (by decide)]; exact w_4 j) (by rw [e_s558]; exact db_up w_5 (by omega) (by omega)) (fun j => by rw [e_s558, x_up_q (by decide)]; exact w_6 j) (fun j => by rw [e_s558, x_up_q (by decide)]; exact w_7 j) (fun j => by rw [e_s558, x_up_q (by decide)]; exact w_8 j) (fun j => by rw [e_s558, x_up_q (by decide)]; exact w_9 j) (q559).symm  (by omega)
