set_option maxHeartbeats 8000000 in
theorem E_X8_setMeaning_243 (s0 : xS) (hG0 : GI s0) (a : Int) (b_a : 0 ≤ a ∧ a ≤ 119) (pa : a < s0 50 6) (pe : 0 ≤ s0 243 12 ∧ s0 243 12 ≤ 9) (pv : VJ s0 s0) : xe none 77 0 (lv_args 0 [.ref 243, vi a]) [] s0 0 0 (fun s' v => GI s' ∧ FL [3904, 3968] s0 s' ∧ v = none ∧ ((∀ j : Nat, s' 253 j = if j = a.toNat then meC s0 (s0 243 12) a else s0 253 j) ∧ (s' 254 a.toNat = 1 ↔ loC s0 (s0 243 12) a) ∧ ∀ j : Nat, j ≠ a.toNat → s' 254 j = s0 254 j)) := by
  have f0 : FL [3904, 3968] s0 s0 := FL.rf
  show xe none 77 0 [(0, .ref 243), (1, vi a)] [] s0 0 0 _
  refine x_A k77_0 (fun _ => rfl) ?_
  refine x_getI k77_1 (f := 12) rfl (q := 243) (n := 13) (kd := 13) ⟨by decide, rfl⟩ (by decide) rfl ?_
  refine x_top (fun z1 e_z1 => ?_)
  have g_z1 : (-1) ≤ s0 243 12 ∧ s0 243 12 ≤ 9 := hG0 243 12
  refine x_istore_n k77_4 (ls' := [(2, vi z1), (0, .ref 243), (1, vi a)]) (by decide) rfl ?_
  refine x_A k77_5 (fun _ => rfl) ?_
  refine x_getR k77_6 (f := 8) rfl (q := 243) (n := 13) (kd := 13) ⟨by decide, rfl⟩ (q2 := 253) (by decide) rfl ?_
  refine x_A k77_9 (fun _ => rfl) ?_
  refine x_A k77_10 (fun _ => rfl) ?_
  refine x_iast k77_11 (q := 253) (n := 120) ⟨by decide, rfl⟩ (by decide) (by first | exact x_rbl b_a rfl rfl | exact ⟨by omega, by omega⟩) ?_
  refine x_nh (fun s2 e_s2 => ?_)
  have hG_s2 : GI s2 := by rw [e_s2]; exact hG0.up (show (-1) ≤ (-1) ∧ (-1) ≤ 39 from ⟨by decide, by decide⟩)
  have f_s2 : FL [3904, 3968] s0 s2 := by rw [e_s2]; exact f0.up (show 3904 ∈ [3904, 3968] from by decide)
  have q3 : s2 243 12 = z1 := by rw [e_s2, x_up_q (by decide)]; exact e_z1.symm
  have q4 : s2 253 a.toNat = (-1) := by rw [e_s2]; exact x_up_same
  refine x_A k77_12 (fun _ => rfl) ?_
  refine x_getR k77_13 (f := 9) rfl (q := 243) (n := 13) (kd := 13) ⟨by decide, rfl⟩ (q2 := 254) (by decide) rfl ?_
  refine x_A k77_16 (fun _ => rfl) ?_
  refine x_A k77_17 (fun _ => rfl) ?_
  refine x_bast k77_18 (q := 254) (n := 120) ⟨by decide, rfl⟩ (by decide) (by first | exact x_rbl b_a rfl rfl | exact ⟨by omega, by omega⟩) ⟨by omega, by omega⟩ ?_
  refine x_nh (fun s5 e_s5 => ?_)
  have hG_s5 : GI s5 := by rw [e_s5]; exact hG_s2.up (show 0 ≤ 0 ∧ 0 ≤ 1 from ⟨by decide, by decide⟩)
  have f_s5 : FL [3904, 3968] s0 s5 := by rw [e_s5]; exact f_s2.up (show 3968 ∈ [3904, 3968] from by decide)
  have q6 : s5 243 12 = z1 := by rw [e_s5, x_up_q (by decide)]; exact q3
  have q7 : s5 253 a.toNat = (-1) := by rw [e_s5, x_up_q (by first | decide | omega)]; exact q4
  have q8 : s5 254 a.toNat = 0 := by rw [e_s5]; exact x_up_same
  refine x_A k77_19 (fun _ => rfl) ?_
  refine x_getR k77_20 (f := 1) rfl (q := 243) (n := 13) (kd := 13) ⟨by decide, rfl⟩ (q2 := 50) (by decide) rfl ?_
  refine x_getR k77_23 (f := 4) rfl (q := 50) (n := 7) (kd := 6) ⟨by decide, rfl⟩ (q2 := 55) (by decide) rfl ?_
  refine x_A k77_26 (fun _ => rfl) ?_
  refine x_iald k77_27 (q := 55) (n := 120) ⟨by decide, rfl⟩ (by decide) (by first | exact x_rbl b_a rfl rfl | exact ⟨by omega, by omega⟩) ?_
  refine x_top (fun z9 e_z9 => ?_)
  have g_z9 : (0 : Int) ≤ s5 55 a.toNat ∧ s5 55 a.toNat ≤ 9 := hG_s5 55 a.toNat
  have r55_ : s0 55 a.toNat = z9 := by rw [← f_s5 55 _ (show 1024 ∉ [3904, 3968] from by decide)]; exact e_z9.symm
  obtain ⟨pw0, pw1, pw2⟩ := pv a (by omega) pa
  have le_ : z1 = s0 243 12 := e_z1
  refine x_A k77_28 (fun _ => rfl) ?_
  refine x_ic_gt k77_29 (t := 50) rfl (by first | exact x_rbe e_z9 g_z9 rfl rfl | exact x_rb g_z9 rfl rfl | exact ⟨by omega, by omega⟩) (by first | exact x_rbe e_z1 g_z1 rfl rfl | exact x_rb g_z1 rfl rfl | exact ⟨by omega, by omega⟩) (fun c10 => ?_) (fun c10 => ?_)
  · skip
    have hn_ : nuC s0 (s0 243 12) a := Or.inl (by omega)
    exact x_vret k77_50 rfl ⟨hG_s5, f_s5, rfl, ⟨fun j => by rw [e_s5, x_up_q (by decide), e_s2, x_up_at, meC_n hn_], ⟨fun q => by exfalso; omega, fun q => absurd q (loC_n hn_)⟩, fun j hj => by rw [e_s5, x_up_i hj, e_s2, x_up_q (by decide)]⟩⟩
  · skip
    refine x_A k77_32 (fun _ => rfl) ?_
    refine x_getR k77_33 (f := 7) rfl (q := 243) (n := 13) (kd := 13) ⟨by decide, rfl⟩ (q2 := 252) (by decide) rfl ?_
    refine x_A k77_36 (fun _ => rfl) ?_
    refine x_iald k77_37 (q := 252) (n := 120) ⟨by decide, rfl⟩ (by decide) (by first | exact x_rbl b_a rfl rfl | exact ⟨by omega, by omega⟩) ?_
    refine x_top (fun z11 e_z11 => ?_)
    have g_z11 : (0 : Int) ≤ s5 252 a.toNat ∧ s5 252 a.toNat ≤ 4 := hG_s5 252 a.toNat
    have r252_ : s0 252 a.toNat = z11 := by rw [← f_s5 252 _ (show 3840 ∉ [3904, 3968] from by decide)]; exact e_z11.symm
    refine x_if_ne k77_38 (t := 50) rfl (by first | exact x_rbe e_z11 g_z11 rfl rfl | exact x_rb g_z11 rfl rfl | exact ⟨by omega, by omega⟩) (fun c12 => ?_) (fun c12 => ?_)
    · skip
      have hn_ : nuC s0 (s0 243 12) a := Or.inr (Or.inl (by rw [← pw0]; omega))
      exact x_vret k77_50 rfl ⟨hG_s5, f_s5, rfl, ⟨fun j => by rw [e_s5, x_up_q (by decide), e_s2, x_up_at, meC_n hn_], ⟨fun q => by exfalso; omega, fun q => absurd q (loC_n hn_)⟩, fun j hj => by rw [e_s5, x_up_i hj, e_s2, x_up_q (by decide)]⟩⟩
    · skip
      refine x_A k77_41 (fun _ => rfl) ?_
      refine x_getR k77_42 (f := 5) rfl (q := 243) (n := 13) (kd := 13) ⟨by decide, rfl⟩ (q2 := 250) (by decide) rfl ?_
      refine x_A k77_45 (fun _ => rfl) ?_
      refine x_bald k77_46 (q := 250) (n := 120) ⟨by decide, rfl⟩ (by decide) (by first | exact x_rbl b_a rfl rfl | exact ⟨by omega, by omega⟩) ?_
      refine x_top (fun z13 e_z13 => ?_)
      have g_z13 : (0 : Int) ≤ s5 250 a.toNat ∧ s5 250 a.toNat ≤ 1 := hG_s5 250 a.toNat
      have r250_ : s0 250 a.toNat = z13 := by rw [← f_s5 250 _ (show 3712 ∉ [3904, 3968] from by decide)]; exact e_z13.symm
      refine x_if_eq k77_47 (t := 51) rfl (by first | exact x_rbe e_z13 g_z13 rfl rfl | exact x_rb g_z13 rfl rfl | exact ⟨by omega, by omega⟩) (fun c14 => ?_) (fun c14 => ?_)
      · skip
        refine x_A k77_51 (fun _ => rfl) ?_
        refine x_getR k77_52 (f := 1) rfl (q := 243) (n := 13) (kd := 13) ⟨by decide, rfl⟩ (q2 := 50) (by decide) rfl ?_
        refine x_A k77_55 (fun _ => rfl) ?_
        refine x_A k77_56 (fun _ => rfl) ?_
        obtain ⟨z15, e_z15⟩ : ∃ z, z = s5 50 6 := ⟨_, rfl⟩
        have g_z15 : (0 : Int) ≤ s5 50 6 ∧ s5 50 6 ≤ 120 := hG_s5 50 6
        refine x_callV k77_57 (y := 26) (n := 2) (w0 := 0) (w1 := 2) (as := [vi a, vi z1]) (rest := []) (by decide +kernel) (q := 50) (nq := 7) (kq := 6) ⟨by decide, rfl⟩ rfl rfl rfl rfl (xe_mono (E_X2_doubters_50 s5 hG_s5 a (by first | exact x_rb b_a rfl rfl | exact ⟨by omega, by omega⟩) z1 (by first | exact x_rbe e_z1 g_z1 rfl rfl | exact x_rb g_z1 rfl rfl | exact ⟨by omega, by omega⟩) ⟨by omega, by omega⟩) ?_)
        rintro s17 v ⟨-, t_s17, z16, rfl, g_z16, xp_z16⟩
        rw [t_s17.nil]
        try rw [t_s17.nil] at xp_z16
        show xe none 77 60 [(2, vi z1), (0, .ref 243), (1, vi a)] [vi z16] s5 0 0 _
        have ve_ : VE s5 s0 := FL.ve f_s5 hG0 (by decide)
        have e506_ : s5 50 6 = s0 50 6 := f_s5 50 6 (show 711 ∉ [3904, 3968] from by decide)
        have dc_ : z16 = dcC s0 a (s0 243 12) := by rw [← ve_.dc ⟨by omega, pa⟩, ← le_]; exact xp_z16.elim (fun q => by exfalso; omega) (fun q => q.2)
        refine x_A k77_60 (fun _ => rfl) ?_
        refine x_ic_le k77_61 (t := 65) rfl (by first | exact x_rbe e_z16 g_z16 rfl rfl | exact x_rb g_z16 rfl rfl | exact ⟨by omega, by omega⟩) ⟨by decide, by decide⟩ (fun c18 => ?_) (fun c18 => ?_)
        · skip
          have nn_ : ¬ nuC s0 (s0 243 12) a := by
            rintro (q | q | q | q)
            · omega
            · exact q (by rw [← pw0]; omega)
            · have := pw1.mpr q; omega
            · omega
          refine x_A k77_65 (fun _ => rfl) ?_
          refine x_getR k77_66 (f := 0) rfl (q := 243) (n := 13) (kd := 13) ⟨by decide, rfl⟩ (q2 := 1) (by decide) rfl ?_
          refine x_A k77_69 (fun _ => rfl) ?_
          refine x_getR k77_70 (f := 1) rfl (q := 243) (n := 13) (kd := 13) ⟨by decide, rfl⟩ (q2 := 50) (by decide) rfl ?_
          refine x_getR k77_73 (f := 1) rfl (q := 50) (n := 7) (kd := 6) ⟨by decide, rfl⟩ (q2 := 52) (by decide) rfl ?_
          refine x_A k77_76 (fun _ => rfl) ?_
          refine x_iald k77_77 (q := 52) (n := 120) ⟨by decide, rfl⟩ (by decide) (by first | exact x_rbl b_a rfl rfl | exact ⟨by omega, by omega⟩) ?_
          refine x_top (fun z19 e_z19 => ?_)
          have g_z19 : (0 : Int) ≤ s5 52 a.toNat ∧ s5 52 a.toNat ≤ 39 := hG_s5 52 a.toNat
          refine x_A k77_78 (fun _ => rfl) ?_
          refine x_callV k77_79 (y := 69) (n := 2) (w0 := 0) (w1 := 2) (as := [vi z19, vi z1]) (rest := []) (by decide +kernel) (q := 1) (nq := 5) (kq := 4) ⟨by decide, rfl⟩ rfl rfl rfl rfl (xe_mono (E_X7_followJoins_1 s5 hG_s5 z19 (by first | exact x_rbe e_z19 g_z19 rfl rfl | exact x_rb g_z19 rfl rfl | exact ⟨by omega, by omega⟩) z1 (by first | exact x_rbe e_z1 g_z1 rfl rfl | exact x_rb g_z1 rfl rfl | exact ⟨by omega, by omega⟩)) ?_)
          rintro s21 v ⟨-, t_s21, z20, rfl, g_z20, xp_z20⟩
          rw [t_s21.nil]
          try rw [t_s21.nil] at xp_z20
          show xe none 77 82 [(2, vi z1), (0, .ref 243), (1, vi a)] [vi z20] s5 0 0 _
          have r52_ : s0 52 a.toNat = z19 := by rw [← f_s5 52 _ (show 832 ∉ [3904, 3968] from by decide)]; exact e_z19.symm
          have fm_ : z20 = fiM s0 (s0 243 12) a := by unfold fiM; rw [r52_, ← ve_.fjE, ← le_]; exact xp_z20
          refine x_istore_n k77_82 (ls' := [(3, vi z20), (2, vi z1), (0, .ref 243), (1, vi a)]) (by decide) rfl ?_
          refine x_A k77_83 (fun _ => rfl) ?_
          refine x_getR k77_84 (f := 9) rfl (q := 243) (n := 13) (kd := 13) ⟨by decide, rfl⟩ (q2 := 254) (by decide) rfl ?_
          refine x_A k77_87 (fun _ => rfl) ?_
          refine x_A k77_88 (fun _ => rfl) ?_
          refine x_getR k77_89 (f := 0) rfl (q := 243) (n := 13) (kd := 13) ⟨by decide, rfl⟩ (q2 := 1) (by decide) rfl ?_
          refine x_A k77_92 (fun _ => rfl) ?_
          refine x_A k77_93 (fun _ => rfl) ?_
          obtain ⟨z22, e_z22⟩ : ∃ z, z = s5 1 4 := ⟨_, rfl⟩
          have g_z22 : (1 : Int) ≤ s5 1 4 ∧ s5 1 4 ≤ 40 := hG_s5 1 4
          refine x_callV k77_94 (y := 63) (n := 2) (w0 := 2) (w1 := 2) (as := [vi z20, vi z1]) (rest := [vi a, .ref 254]) (by decide +kernel) (q := 1) (nq := 5) (kq := 4) ⟨by decide, rfl⟩ rfl rfl rfl rfl (xe_mono (E_X7_isEnded_1 s5 hG_s5 z20 (by first | exact x_rbe e_z20 g_z20 rfl rfl | exact x_rb g_z20 rfl rfl | exact ⟨by omega, by omega⟩) z1 (by first | exact x_rbe e_z1 g_z1 rfl rfl | exact x_rb g_z1 rfl rfl | exact ⟨by omega, by omega⟩)) ?_)
          rintro s24 v ⟨h_s24, z23, rfl, hz_z23⟩
          rw [h_s24]
          rcases hz_z23 with ⟨c_z23, e_z23, m_z23⟩ | ⟨e_z23, m_z23⟩
          · rw [e_z23]
            show xe none 77 97 [(3, vi z20), (2, vi z1), (0, .ref 243), (1, vi a)] [vi 1, vi a, .ref 254] s5 0 0 _
            have lo_ : (1 : Int) = 1 ↔ loC s0 (s0 243 12) a := ⟨fun _ => ⟨nn_, by rw [← fm_, ← ve_.en, ← le_]; exact ⟨⟨by omega, by omega⟩, by omega⟩⟩, fun _ => rfl⟩
            refine x_bast k77_97 (q := 254) (n := 120) ⟨by decide, rfl⟩ (by decide) (by first | exact x_rbl b_a rfl rfl | exact ⟨by omega, by omega⟩) ⟨by omega, by omega⟩ ?_
            refine x_nh (fun s25 e_s25 => ?_)
            have hG_s25 : GI s25 := by rw [e_s25]; exact hG_s5.up (show 0 ≤ 1 ∧ 1 ≤ 1 from ⟨by decide, by decide⟩)
            have f_s25 : FL [3904, 3968] s0 s25 := by rw [e_s25]; exact f_s5.up (show 3968 ∈ [3904, 3968] from by decide)
            have q26 : s25 243 12 = z1 := by rw [e_s25, x_up_q (by decide)]; exact q6
            have q27 : s25 50 6 = z15 := by rw [e_s25, x_up_q (by decide)]; exact e_z15.symm
            have q28 : s25 1 4 = z22 := by rw [e_s25, x_up_q (by decide)]; exact e_z22.symm
            have q29 : s25 253 a.toNat = (-1) := by rw [e_s25, x_up_q (by first | decide | omega)]; exact q7
            have q30 : s25 55 a.toNat = z9 := by rw [e_s25, x_up_q (by first | decide | omega)]; exact e_z9.symm
            have q31 : s25 252 a.toNat = z11 := by rw [e_s25, x_up_q (by first | decide | omega)]; exact e_z11.symm
            have q32 : s25 250 a.toNat = z13 := by rw [e_s25, x_up_q (by first | decide | omega)]; exact e_z13.symm
            have q33 : s25 52 a.toNat = z19 := by rw [e_s25, x_up_q (by first | decide | omega)]; exact e_z19.symm
            have q34 : s25 254 a.toNat = 1 := by rw [e_s25]; exact x_up_same
            refine x_A k77_98 (fun _ => rfl) ?_
            refine x_getR k77_99 (f := 8) rfl (q := 243) (n := 13) (kd := 13) ⟨by decide, rfl⟩ (q2 := 253) (by decide) rfl ?_
            refine x_A k77_102 (fun _ => rfl) ?_
            refine x_A k77_103 (fun _ => rfl) ?_
            refine x_getR k77_104 (f := 0) rfl (q := 243) (n := 13) (kd := 13) ⟨by decide, rfl⟩ (q2 := 1) (by decide) rfl ?_
            refine x_A k77_107 (fun _ => rfl) ?_
            refine x_getR k77_108 (f := 0) rfl (q := 243) (n := 13) (kd := 13) ⟨by decide, rfl⟩ (q2 := 1) (by decide) rfl ?_
            refine x_A k77_111 (fun _ => rfl) ?_
            refine x_A k77_112 (fun _ => rfl) ?_
            refine x_callV k77_113 (y := 70) (n := 2) (w0 := 3) (w1 := 2) (as := [vi z20, vi z1]) (rest := [.ref 1, vi a, .ref 253]) (by decide +kernel) (q := 1) (nq := 5) (kq := 4) ⟨by decide, rfl⟩ rfl rfl rfl rfl (xe_mono (E_X7_firstThere_1 s25 hG_s25 z20 (by first | exact x_rbe e_z20 g_z20 rfl rfl | exact x_rb g_z20 rfl rfl | exact ⟨by omega, by omega⟩) z1 (by first | exact x_rbe e_z1 g_z1 rfl rfl | exact x_rb g_z1 rfl rfl | exact ⟨by omega, by omega⟩)) ?_)
            rintro s36 v ⟨-, t_s36, z35, rfl, g_z35, xp_z35⟩
            rw [t_s36.nil]
            try rw [t_s36.nil] at xp_z35
            show xe none 77 116 [(3, vi z20), (2, vi z1), (0, .ref 243), (1, vi a)] [vi z35, .ref 1, vi a, .ref 253] s25 0 0 _
            have vf_ : VE s25 s0 := FL.ve f_s25 hG0 (by decide)
            have ft_ : z35 = ftG (s0 1 4) (thC s0 (s0 243 12)) (parC s0 (s0 243 12)) 40 (fiM s0 (s0 243 12) a) := by rw [← fm_, ← vf_.ftE, ← le_]; exact xp_z35
            refine x_A k77_116 (fun _ => rfl) ?_
            refine x_getR k77_117 (f := 6) rfl (q := 243) (n := 13) (kd := 13) ⟨by decide, rfl⟩ (q2 := 251) (by decide) rfl ?_
            refine x_A k77_120 (fun _ => rfl) ?_
            refine x_iald k77_121 (q := 251) (n := 120) ⟨by decide, rfl⟩ (by decide) (by first | exact x_rbl b_a rfl rfl | exact ⟨by omega, by omega⟩) ?_
            refine x_top (fun z37 e_z37 => ?_)
            have g_z37 : (0 : Int) ≤ s25 251 a.toNat ∧ s25 251 a.toNat ≤ 6 := hG_s25 251 a.toNat
            refine x_A k77_122 (fun _ => rfl) ?_
            refine x_callV k77_123 (y := 71) (n := 3) (w0 := 2) (w1 := 3) (as := [vi z35, vi z37, vi z1]) (rest := [vi a, .ref 253]) (by decide +kernel) (q := 1) (nq := 5) (kq := 4) ⟨by decide, rfl⟩ rfl rfl rfl rfl (xe_mono (E_X7_raised_1 s25 hG_s25 z35 (by first | exact x_rbe e_z35 g_z35 rfl rfl | exact x_rb g_z35 rfl rfl | exact ⟨by omega, by omega⟩) z37 (by first | exact x_rbe e_z37 g_z37 rfl rfl | exact x_rb g_z37 rfl rfl | exact ⟨by omega, by omega⟩) z1 (by first | exact x_rbe e_z1 g_z1 rfl rfl | exact x_rb g_z1 rfl rfl | exact ⟨by omega, by omega⟩)) ?_)
            rintro s39 v ⟨-, t_s39, z38, rfl, g_z38, xp_z38⟩
            rw [t_s39.nil]
            try rw [t_s39.nil] at xp_z38
            show xe none 77 126 [(3, vi z20), (2, vi z1), (0, .ref 243), (1, vi a)] [vi z38, vi a, .ref 253] s25 0 0 _
            have r251_ : s0 251 a.toNat = z37 := by rw [← f_s25 251 _ (show 3776 ∉ [3904, 3968] from by decide)]; exact e_z37.symm
            have me_ : meC s0 (s0 243 12) a = z38 := by rw [meC_y nn_, ← ft_, ← pw2, r251_, ← vf_.raE, ← le_]; exact (xp_z38).symm
            refine x_iast k77_126 (q := 253) (n := 120) ⟨by decide, rfl⟩ (by decide) (by first | exact x_rbl b_a rfl rfl | exact ⟨by omega, by omega⟩) ?_
            refine x_nh (fun s40 e_s40 => ?_)
            have hG_s40 : GI s40 := by rw [e_s40]; exact hG_s25.up (show (-1) ≤ z38 ∧ z38 ≤ 39 from (by first | exact x_rbe e_z38 g_z38 rfl rfl | exact x_rb g_z38 rfl rfl | exact ⟨by omega, by omega⟩))
            have f_s40 : FL [3904, 3968] s0 s40 := by rw [e_s40]; exact f_s25.up (show 3904 ∈ [3904, 3968] from by decide)
            have q41 : s40 243 12 = z1 := by rw [e_s40, x_up_q (by decide)]; exact q26
            have q42 : s40 50 6 = z15 := by rw [e_s40, x_up_q (by decide)]; exact q27
            have q43 : s40 1 4 = z22 := by rw [e_s40, x_up_q (by decide)]; exact q28
            have q44 : s40 55 a.toNat = z9 := by rw [e_s40, x_up_q (by first | decide | omega)]; exact q30
            have q45 : s40 252 a.toNat = z11 := by rw [e_s40, x_up_q (by first | decide | omega)]; exact q31
            have q46 : s40 250 a.toNat = z13 := by rw [e_s40, x_up_q (by first | decide | omega)]; exact q32
            have q47 : s40 52 a.toNat = z19 := by rw [e_s40, x_up_q (by first | decide | omega)]; exact q33
            have q48 : s40 254 a.toNat = 1 := by rw [e_s40, x_up_q (by first | decide | omega)]; exact q34
            have q49 : s40 251 a.toNat = z37 := by rw [e_s40, x_up_q (by first | decide | omega)]; exact e_z37.symm
            have q50 : s40 253 a.toNat = z38 := by rw [e_s40]; exact x_up_same
            exact x_vret k77_127 rfl ⟨hG_s40, f_s40, rfl, ⟨fun j => by rw [e_s40, x_up_at, e_s25, x_up_q (by decide), e_s5, x_up_q (by decide), e_s2, x_up_at, if_dd, me_], (by rw [q48]; exact lo_), fun j hj => by rw [e_s40, x_up_q (by decide), e_s25, x_up_i hj, e_s5, x_up_i hj, e_s2, x_up_q (by decide)]⟩⟩
          · rw [e_z23]
            show xe none 77 97 [(3, vi z20), (2, vi z1), (0, .ref 243), (1, vi a)] [vi 0, vi a, .ref 254] s5 0 0 _
            have lo_ : (0 : Int) = 1 ↔ loC s0 (s0 243 12) a := ⟨fun q => by exfalso; omega, fun q => by have q2 := q.2; rw [← fm_, ← ve_.en, ← le_] at q2; exact absurd ⟨q2.1.1, q2.1.2, q2.2⟩ m_z23⟩
            refine x_bast k77_97 (q := 254) (n := 120) ⟨by decide, rfl⟩ (by decide) (by first | exact x_rbl b_a rfl rfl | exact ⟨by omega, by omega⟩) ⟨by omega, by omega⟩ ?_
            refine x_nh (fun s51 e_s51 => ?_)
            have hG_s51 : GI s51 := by rw [e_s51]; exact hG_s5.up (show 0 ≤ 0 ∧ 0 ≤ 1 from ⟨by decide, by decide⟩)
            have f_s51 : FL [3904, 3968] s0 s51 := by rw [e_s51]; exact f_s5.up (show 3968 ∈ [3904, 3968] from by decide)
            have q52 : s51 243 12 = z1 := by rw [e_s51, x_up_q (by decide)]; exact q6
            have q53 : s51 50 6 = z15 := by rw [e_s51, x_up_q (by decide)]; exact e_z15.symm
            have q54 : s51 1 4 = z22 := by rw [e_s51, x_up_q (by decide)]; exact e_z22.symm
            have q55 : s51 253 a.toNat = (-1) := by rw [e_s51, x_up_q (by first | decide | omega)]; exact q7
            have q56 : s51 55 a.toNat = z9 := by rw [e_s51, x_up_q (by first | decide | omega)]; exact e_z9.symm
            have q57 : s51 252 a.toNat = z11 := by rw [e_s51, x_up_q (by first | decide | omega)]; exact e_z11.symm
            have q58 : s51 250 a.toNat = z13 := by rw [e_s51, x_up_q (by first | decide | omega)]; exact e_z13.symm
            have q59 : s51 52 a.toNat = z19 := by rw [e_s51, x_up_q (by first | decide | omega)]; exact e_z19.symm
            have q60 : s51 254 a.toNat = 0 := by rw [e_s51]; exact x_up_same
            refine x_A k77_98 (fun _ => rfl) ?_
            refine x_getR k77_99 (f := 8) rfl (q := 243) (n := 13) (kd := 13) ⟨by decide, rfl⟩ (q2 := 253) (by decide) rfl ?_
            refine x_A k77_102 (fun _ => rfl) ?_
            refine x_A k77_103 (fun _ => rfl) ?_
            refine x_getR k77_104 (f := 0) rfl (q := 243) (n := 13) (kd := 13) ⟨by decide, rfl⟩ (q2 := 1) (by decide) rfl ?_
            refine x_A k77_107 (fun _ => rfl) ?_
            refine x_getR k77_108 (f := 0) rfl (q := 243) (n := 13) (kd := 13) ⟨by decide, rfl⟩ (q2 := 1) (by decide) rfl ?_
            refine x_A k77_111 (fun _ => rfl) ?_
            refine x_A k77_112 (fun _ => rfl) ?_
            refine x_callV k77_113 (y := 70) (n := 2) (w0 := 3) (w1 := 2) (as := [vi z20, vi z1]) (rest := [.ref 1, vi a, .ref 253]) (by decide +kernel) (q := 1) (nq := 5) (kq := 4) ⟨by decide, rfl⟩ rfl rfl rfl rfl (xe_mono (E_X7_firstThere_1 s51 hG_s51 z20 (by first | exact x_rbe e_z20 g_z20 rfl rfl | exact x_rb g_z20 rfl rfl | exact ⟨by omega, by omega⟩) z1 (by first | exact x_rbe e_z1 g_z1 rfl rfl | exact x_rb g_z1 rfl rfl | exact ⟨by omega, by omega⟩)) ?_)
            rintro s62 v ⟨-, t_s62, z61, rfl, g_z61, xp_z61⟩
            rw [t_s62.nil]
            try rw [t_s62.nil] at xp_z61
            show xe none 77 116 [(3, vi z20), (2, vi z1), (0, .ref 243), (1, vi a)] [vi z61, .ref 1, vi a, .ref 253] s51 0 0 _
            have vf_ : VE s51 s0 := FL.ve f_s51 hG0 (by decide)
            have ft_ : z61 = ftG (s0 1 4) (thC s0 (s0 243 12)) (parC s0 (s0 243 12)) 40 (fiM s0 (s0 243 12) a) := by rw [← fm_, ← vf_.ftE, ← le_]; exact xp_z61
            refine x_A k77_116 (fun _ => rfl) ?_
            refine x_getR k77_117 (f := 6) rfl (q := 243) (n := 13) (kd := 13) ⟨by decide, rfl⟩ (q2 := 251) (by decide) rfl ?_
            refine x_A k77_120 (fun _ => rfl) ?_
            refine x_iald k77_121 (q := 251) (n := 120) ⟨by decide, rfl⟩ (by decide) (by first | exact x_rbl b_a rfl rfl | exact ⟨by omega, by omega⟩) ?_
            refine x_top (fun z63 e_z63 => ?_)
            have g_z63 : (0 : Int) ≤ s51 251 a.toNat ∧ s51 251 a.toNat ≤ 6 := hG_s51 251 a.toNat
            refine x_A k77_122 (fun _ => rfl) ?_
            refine x_callV k77_123 (y := 71) (n := 3) (w0 := 2) (w1 := 3) (as := [vi z61, vi z63, vi z1]) (rest := [vi a, .ref 253]) (by decide +kernel) (q := 1) (nq := 5) (kq := 4) ⟨by decide, rfl⟩ rfl rfl rfl rfl (xe_mono (E_X7_raised_1 s51 hG_s51 z61 (by first | exact x_rbe e_z61 g_z61 rfl rfl | exact x_rb g_z61 rfl rfl | exact ⟨by omega, by omega⟩) z63 (by first | exact x_rbe e_z63 g_z63 rfl rfl | exact x_rb g_z63 rfl rfl | exact ⟨by omega, by omega⟩) z1 (by first | exact x_rbe e_z1 g_z1 rfl rfl | exact x_rb g_z1 rfl rfl | exact ⟨by omega, by omega⟩)) ?_)
            rintro s65 v ⟨-, t_s65, z64, rfl, g_z64, xp_z64⟩
            rw [t_s65.nil]
            try rw [t_s65.nil] at xp_z64
            show xe none 77 126 [(3, vi z20), (2, vi z1), (0, .ref 243), (1, vi a)] [vi z64, vi a, .ref 253] s51 0 0 _
            have r251_ : s0 251 a.toNat = z63 := by rw [← f_s51 251 _ (show 3776 ∉ [3904, 3968] from by decide)]; exact e_z63.symm
            have me_ : meC s0 (s0 243 12) a = z64 := by rw [meC_y nn_, ← ft_, ← pw2, r251_, ← vf_.raE, ← le_]; exact (xp_z64).symm
            refine x_iast k77_126 (q := 253) (n := 120) ⟨by decide, rfl⟩ (by decide) (by first | exact x_rbl b_a rfl rfl | exact ⟨by omega, by omega⟩) ?_
            refine x_nh (fun s66 e_s66 => ?_)
            have hG_s66 : GI s66 := by rw [e_s66]; exact hG_s51.up (show (-1) ≤ z64 ∧ z64 ≤ 39 from (by first | exact x_rbe e_z64 g_z64 rfl rfl | exact x_rb g_z64 rfl rfl | exact ⟨by omega, by omega⟩))
            have f_s66 : FL [3904, 3968] s0 s66 := by rw [e_s66]; exact f_s51.up (show 3904 ∈ [3904, 3968] from by decide)
            have q67 : s66 243 12 = z1 := by rw [e_s66, x_up_q (by decide)]; exact q52
            have q68 : s66 50 6 = z15 := by rw [e_s66, x_up_q (by decide)]; exact q53
            have q69 : s66 1 4 = z22 := by rw [e_s66, x_up_q (by decide)]; exact q54
            have q70 : s66 55 a.toNat = z9 := by rw [e_s66, x_up_q (by first | decide | omega)]; exact q56
            have q71 : s66 252 a.toNat = z11 := by rw [e_s66, x_up_q (by first | decide | omega)]; exact q57
            have q72 : s66 250 a.toNat = z13 := by rw [e_s66, x_up_q (by first | decide | omega)]; exact q58
            have q73 : s66 52 a.toNat = z19 := by rw [e_s66, x_up_q (by first | decide | omega)]; exact q59
            have q74 : s66 254 a.toNat = 0 := by rw [e_s66, x_up_q (by first | decide | omega)]; exact q60
            have q75 : s66 251 a.toNat = z63 := by rw [e_s66, x_up_q (by first | decide | omega)]; exact e_z63.symm
            have q76 : s66 253 a.toNat = z64 := by rw [e_s66]; exact x_up_same
            exact x_vret k77_127 rfl ⟨hG_s66, f_s66, rfl, ⟨fun j => by rw [e_s66, x_up_at, e_s51, x_up_q (by decide), e_s5, x_up_q (by decide), e_s2, x_up_at, if_dd, me_], (by rw [q74]; exact lo_), fun j hj => by rw [e_s66, x_up_q (by decide), e_s51, x_up_i hj, e_s5, x_up_i hj, e_s2, x_up_q (by decide)]⟩⟩
        · skip
          have hn_ : nuC s0 (s0 243 12) a := Or.inr (Or.inr (Or.inr (by omega)))
          exact x_vret k77_64 rfl ⟨hG_s5, f_s5, rfl, ⟨fun j => by rw [e_s5, x_up_q (by decide), e_s2, x_up_at, meC_n hn_], ⟨fun q => by exfalso; omega, fun q => absurd q (loC_n hn_)⟩, fun j hj => by rw [e_s5, x_up_i hj, e_s2, x_up_q (by decide)]⟩⟩
      · skip
        have hn_ : nuC s0 (s0 243 12) a := Or.inr (Or.inr (Or.inl (pw1.mp (by omega))))
        exact x_vret k77_50 rfl ⟨hG_s5, f_s5, rfl, ⟨fun j => by rw [e_s5, x_up_q (by decide), e_s2, x_up_at, meC_n hn_], ⟨fun q => by exfalso; omega, fun q => absurd q (loC_n hn_)⟩, fun j hj => by rw [e_s5, x_up_i hj, e_s2, x_up_q (by decide)]⟩⟩
set_option maxHeartbeats 8000000 in
theorem L_E255_J7_fill_d0a16_255_6 (s0 : xS) (a : Int) (b_a : in64 a)  : ∀ (n : Nat) (s : xS) (x1 : Int) (x3 : Int) (x4 : Int) (hG : GI s) (f : FL [4032] s0 s) (b_x1 : in64 x1) (b_x3 : 0 ≤ x3 ∧ x3 ≤ 40) (b_x4 : 40 ≤ x4 ∧ x4 ≤ 40) (r_4_3 : x4 ≤ x3 + 40) (w_0 : x4 = 40) (w_1 : x1 = a) (w_2 : ∀ j : Nat, (j : Int) < x3 → s 255 j = a)  (hm : (40 - x3) < (n : Int)), xe none 228 6 [(0, .ref 255), (1, vj x1), (3, vi x3), (4, vi x4)] [] s 0 0 (fun s' v => GI s' ∧ FL [4032] s0 s' ∧ v = none ∧ (∀ j : Nat, (j : Int) < 40 → s' 255 j = a)) := by
  intro n
  induction n with
  | zero => intro s x1 x3 x4 hG f b_x1 b_x3 b_x4 r_4_3 w_0 w_1 w_2  hm; exfalso; omega
  | succ n ih =>
    intro s x1 x3 x4 hG f b_x1 b_x3 b_x4 r_4_3 w_0 w_1 w_2  hm
    refine x_A k228_6 (fun _ => rfl) ?_
    refine x_A k228_7 (fun _ => rfl) ?_
    refine x_ic_ge k228_9 (t := 22) rfl (by first | exact x_rb b_x3 rfl rfl | exact ⟨by omega, by omega⟩) (by first | exact x_rb b_x4 rfl rfl | exact ⟨by omega, by omega⟩) (fun c42 => ?_) (fun c42 => ?_)
    · skip
      exact x_vret k228_22 rfl ⟨hG, f, rfl, (fun j hj => w_2 j (by omega))⟩
    · skip
      refine x_A k228_12 (fun _ => rfl) ?_
      refine x_A k228_13 (fun _ => rfl) ?_
      refine x_A k228_14 (fun _ => rfl) ?_
      refine x_last k228_15 (q := 255) (n := 40) ⟨by decide, rfl⟩ (by decide) (by first | exact x_rbl b_x3 rfl rfl | exact ⟨by omega, by omega⟩) ?_
      refine x_nh (fun s43 e_s43 => ?_)
      have hG_s43 : GI s43 := by rw [e_s43]; exact hG.up (show in64 x1 from b_x1)
      have f_s43 : FL [4032] s0 s43 := by rw [e_s43]; exact f.up (show 4032 ∈ [4032] from by decide)
      refine x_iinc k228_16 (ls' := [(3, vi (x3 + 1)), (0, .ref 255), (1, vj x1), (4, vi x4)]) rfl (by decide) rfl ?_
      refine x_goto k228_19 (t := 6) rfl ?_
      refine x_ls (l := [(0, .ref 255), (1, vj x1), (3, vi (x3 + 1)), (4, vi x4)]) (show ([0, 1, 3, 4] : List Nat).Nodup from by decide) ⟨rfl, rfl, rfl, rfl, trivial⟩ ?_
      exact ih s43 x1 (x3 + 1) x4 hG_s43 f_s43 b_x1 ⟨by omega, by omega⟩ (by first | exact x_rb b_x4 rfl rfl | exact ⟨by omega, by omega⟩) (by omega) (by omega) w_1 (by rw [e_s43, w_1]; exact fl_z w_2 (by omega))  (by omega)
set_option maxHeartbeats 8000000 in
theorem E255_J7_fill_d0a16_255 (s0 : xS) (hG0 : GI s0) (a : Int) (b_a : in64 a) : xe none 228 0 (lv_args 0 [.ref 255, vj a]) [] s0 0 0 (fun s' v => GI s' ∧ FL [4032] s0 s' ∧ v = none ∧ (∀ j : Nat, (j : Int) < 40 → s' 255 j = a)) := by
  have f0 : FL [4032] s0 s0 := FL.rf
  show xe none 228 0 [(0, .ref 255), (1, vj a)] [] s0 0 0 _
  refine x_A k228_0 (fun _ => rfl) ?_
  refine x_istore_n k228_1 (ls' := [(3, vi 0), (0, .ref 255), (1, vj a)]) (by decide) rfl ?_
  refine x_A k228_2 (fun _ => rfl) ?_
  refine x_alen k228_3 (q := 255) (t := 21) (n := 40) (kd := 1) ⟨by decide, rfl⟩ (by decide) ?_
  refine x_top (fun z44 e_z44 => ?_)
  refine x_istore k228_4 (ls' := [(4, vi z44), (3, vi 0), (0, .ref 255), (1, vj a)]) (by decide) rfl ?_
  refine x_ls (l := [(0, .ref 255), (1, vj a), (3, vi 0), (4, vi z44)]) (show ([0, 1, 3, 4] : List Nat).Nodup from by decide) ⟨rfl, rfl, rfl, rfl, trivial⟩ ?_
  exact L_E255_J7_fill_d0a16_255_6 s0 a b_a  (((40 - 0) + 1 : Int)).toNat s0 a 0 z44 hG0 f0 b_a ⟨by decide, by decide⟩ (by first | exact x_rbe e_z44 g_z44 rfl rfl | exact x_rb g_z44 rfl rfl | exact ⟨by omega, by omega⟩) (by omega) (by omega) rfl (fun j hj => by omega)  (by omega)
set_option maxHeartbeats 8000000 in
theorem L_E_X8_lookIn_243_28 (s0 : xS) (hJ0 : J s0) (hG0 : GI s0) (a : Int) (b_a : 0 ≤ a ∧ a ≤ 9) (pR : R1 s0) (pj : VCj s0) (pl : VCl s0)  : ∀ (n : Nat) (s : xS) (x1 : Int) (x2 : Int) (x1000 : Int) (x1001 : Int) (x1002 : Int) (hG : GI s) (f : FL [3329, 3334, 3335, 3336, 3392, 3456, 3520, 3584, 3276, 3648, 3712, 3776, 3840, 3904, 3968, 3277, 4032] s0 s) (b_x1 : 0 ≤ x1 ∧ x1 ≤ 9) (b_x2 : 0 ≤ x2 ∧ x2 ≤ 120) (b_x1000 : 0 ≤ x1000 ∧ x1000 ≤ 120) (b_x1001 : 0 ≤ x1001 ∧ x1001 ≤ 9) (b_x1002 : 0 ≤ x1002 ∧ x1002 ≤ 1) (r_2_1000 : x2 ≤ x1000 + 0) (r_1_1001 : x1 ≤ x1001 + 0) (r_1001_1 : x1001 ≤ x1 + 0) (w_0 : x1000 = s0 50 6 ∧ x2 ≤ x1000 ∧ x1001 = a ∧ x1 = a ∧ x1002 ≠ 0) (w_1 : VJ s s0) (w_2 : MEn s s0 a x2) (w_3 : SHn s s0 a x2) (e_x1000 : x1000 = s 50 6) (e_x1001 : x1001 = s 243 12) (e_x1002 : x1002 = s 243 11)  (hm : (120 - x2) < (n : Int)), xe none 76 28 [(0, .ref 243), (1, vi x1), (2, vi x2)] [] s 0 0 (fun s' v => GI s' ∧ FL [3329, 3334, 3335, 3336, 3392, 3456, 3520, 3584, 3276, 3648, 3712, 3776, 3840, 3904, 3968, 3277, 4032] s0 s' ∧ v = none ∧ (VJ s' s0 ∧ VL s' s0 a ∧ s' 243 11 ≠ 0 ∧ s' 243 12 = a)) := by
  intro n
  induction n with
  | zero => intro s x1 x2 x1000 x1001 x1002 hG f b_x1 b_x2 b_x1000 b_x1001 b_x1002 r_2_1000 r_1_1001 r_1001_1 w_0 w_1 w_2 w_3 e_x1000 e_x1001 e_x1002  hm; exfalso; omega
  | succ n ih =>
    intro s x1 x2 x1000 x1001 x1002 hG f b_x1 b_x2 b_x1000 b_x1001 b_x1002 r_2_1000 r_1_1001 r_1001_1 w_0 w_1 w_2 w_3 e_x1000 e_x1001 e_x1002  hm
    refine x_A k76_28 (fun _ => rfl) ?_
    refine x_A k76_29 (fun _ => rfl) ?_
    refine x_getR k76_30 (f := 1) rfl (q := 243) (n := 13) (kd := 13) ⟨by decide, rfl⟩ (q2 := 50) (by decide) rfl ?_
    refine x_getI k76_33 (f := 6) rfl (q := 50) (n := 7) (kd := 6) ⟨by decide, rfl⟩ (by decide) rfl ?_
    refine x_rw (e_x1000.symm) ?_
    refine x_ic_ge k76_36 (t := 91) rfl (by first | exact x_rb b_x2 rfl rfl | exact ⟨by omega, by omega⟩) (by first | exact x_rb b_x1000 rfl rfl | exact ⟨by omega, by omega⟩) (fun c647 => ?_) (fun c647 => ?_)
    · skip
      exact x_vret k76_91 rfl ⟨hG, f, rfl, ⟨w_1, VL_of w_2 w_3 (by omega), by omega, by omega⟩⟩
    · skip
      have ve_ : VE s s0 := FL.ve f hG0 (by decide)
      refine x_A k76_39 (fun _ => rfl) ?_
      refine x_A k76_40 (fun _ => rfl) ?_
      refine x_callV k76_41 (y := 77) (n := 1) (w0 := 0) (w1 := 1) (as := [vi x2]) (rest := []) (by decide +kernel) (q := 243) (nq := 13) (kq := 13) ⟨by decide, rfl⟩ rfl rfl rfl rfl (xe_mono (E_X8_setMeaning_243 s hG x2 (by first | exact x_rb b_x2 rfl rfl | exact ⟨by omega, by omega⟩) (by omega) (by omega) (VJ.cg w_1 ve_.sy)) ?_)
      rintro s649 v ⟨hG_s649, t_s649, rfl, xp_z648⟩
      have f_s649 : FL [3329, 3334, 3335, 3336, 3392, 3456, 3520, 3584, 3276, 3648, 3712, 3776, 3840, 3904, 3968, 3277, 4032] s0 s649 := f.tr t_s649 (by decide)
      have q650 : s649 50 6 = x1000 := (t_s649 50 6 (show 711 ∉ [3904, 3968] from by decide)).trans e_x1000.symm
      have q651 : s649 243 12 = x1001 := (t_s649 243 12 (show 3277 ∉ [3904, 3968] from by decide)).trans e_x1001.symm
      have q652 : s649 243 11 = x1002 := (t_s649 243 11 (show 3276 ∉ [3904, 3968] from by decide)).trans e_x1002.symm
      have VJk_s649 : VJ s649 s0 := VJ.fl w_1 t_s649 (by decide)
      show xe none 76 44 [(0, .ref 243), (1, vi x1), (2, vi x2)] [] s649 0 0 _
      have sm_ := xp_z648
      rw [show s 243 12 = a by omega, ve_.me ⟨by omega, by omega⟩, ve_.lo ⟨by omega, by omega⟩] at sm_
      refine x_A k76_44 (fun _ => rfl) ?_
      refine x_getR k76_45 (f := 8) rfl (q := 243) (n := 13) (kd := 13) ⟨by decide, rfl⟩ (q2 := 253) (by decide) rfl ?_
      refine x_A k76_48 (fun _ => rfl) ?_
      refine x_iald k76_49 (q := 253) (n := 120) ⟨by decide, rfl⟩ (by decide) (by first | exact x_rbl b_x2 rfl rfl | exact ⟨by omega, by omega⟩) ?_
      refine x_top (fun z653 e_z653 => ?_)
      have g_z653 : (-1) ≤ s649 253 x2.toNat ∧ s649 253 x2.toNat ≤ 39 := hG_s649 253 x2.toNat
      have ez_ : z653 = meC s0 a x2 := (e_z653.symm).symm.trans ((sm_.1 x2.toNat).trans (if_pos rfl))
      refine x_A k76_50 (fun _ => rfl) ?_
      refine x_ic_eq k76_51 (t := 85) rfl (by first | exact x_rbe e_z653 g_z653 rfl rfl | exact x_rb g_z653 rfl rfl | exact ⟨by omega, by omega⟩) ⟨by decide, by decide⟩ (fun c654 => ?_) (fun c654 => ?_)
      · skip
        refine x_iinc k76_85 (ls' := [(2, vi (x2 + 1)), (0, .ref 243), (1, vi x1)]) rfl (by decide) rfl ?_
        refine x_goto k76_88 (t := 28) rfl ?_
        refine x_ls (l := [(0, .ref 243), (1, vi x1), (2, vi (x2 + 1))]) (show ([0, 1, 2] : List Nat).Nodup from by decide) ⟨rfl, rfl, rfl, trivial⟩ ?_
        exact ih s649 x1 (x2 + 1) x1000 x1001 x1002 hG_s649 f_s649 (by first | exact x_rb b_x1 rfl rfl | exact ⟨by omega, by omega⟩) ⟨by omega, by omega⟩ (by first | exact x_rb b_x1000 rfl rfl | exact ⟨by omega, by omega⟩) (by first | exact x_rb b_x1001 rfl rfl | exact ⟨by omega, by omega⟩) (by first | exact x_rb b_x1002 rfl rfl | exact ⟨by omega, by omega⟩) (by omega) (by omega) (by omega) (by omega) VJk_s649 (MEn.add w_2 (by omega) sm_.1 rfl sm_.2.1 sm_.2.2) (SHn.no w_3 (funext fun j => t_s649 255 j (show 4032 ∉ _ from by decide)) (by omega)) (q650).symm (q651).symm (q652).symm  (by omega)
      · skip
        refine x_A k76_54 (fun _ => rfl) ?_
        refine x_getR k76_55 (f := 10) rfl (q := 243) (n := 13) (kd := 13) ⟨by decide, rfl⟩ (q2 := 255) (by decide) rfl ?_
        refine x_A k76_58 (fun _ => rfl) ?_
        refine x_getR k76_59 (f := 1) rfl (q := 243) (n := 13) (kd := 13) ⟨by decide, rfl⟩ (q2 := 50) (by decide) rfl ?_
        refine x_getR k76_62 (f := 0) rfl (q := 50) (n := 7) (kd := 6) ⟨by decide, rfl⟩ (q2 := 51) (by decide) rfl ?_
        refine x_A k76_65 (fun _ => rfl) ?_
        refine x_iald k76_66 (q := 51) (n := 120) ⟨by decide, rfl⟩ (by decide) (by first | exact x_rbl b_x2 rfl rfl | exact ⟨by omega, by omega⟩) ?_
        refine x_top (fun z655 e_z655 => ?_)
        have g_z655 : (0 : Int) ≤ s649 51 x2.toNat ∧ s649 51 x2.toNat ≤ 39 := hG_s649 51 x2.toNat
        refine x_A k76_67 (fun _ => rfl) ?_
        refine x_lald k76_68 (q := 255) (n := 40) ⟨by decide, rfl⟩ (by decide) (by first | exact x_rbel e_z655 g_z655 rfl rfl | exact x_rbl g_z655 rfl rfl | exact ⟨by omega, by omega⟩) ?_
        refine x_topL (fun z656 e_z656 => ?_)
        have b_z656 : in64 z656 := by rw [e_z656]; exact hG_s649 255 z655.toNat
        refine x_A k76_69 (fun _ => rfl) ?_
        refine x_getR k76_70 (f := 0) rfl (q := 243) (n := 13) (kd := 13) ⟨by decide, rfl⟩ (q2 := 1) (by decide) rfl ?_
        refine x_A k76_73 (fun _ => rfl) ?_
        refine x_getR k76_74 (f := 8) rfl (q := 243) (n := 13) (kd := 13) ⟨by decide, rfl⟩ (q2 := 253) (by decide) rfl ?_
        refine x_A k76_77 (fun _ => rfl) ?_
        refine x_iald k76_78 (q := 253) (n := 120) ⟨by decide, rfl⟩ (by decide) (by first | exact x_rbl b_x2 rfl rfl | exact ⟨by omega, by omega⟩) ?_
        refine x_rw (e_z653.symm) ?_
        refine x_A k76_79 (fun _ => rfl) ?_
        refine x_callV k76_80 (y := 65) (n := 2) (w0 := 4) (w1 := 2) (as := [vi z653, vi x1]) (rest := [vj z656, vi z655, .ref 255]) (by decide +kernel) (q := 1) (nq := 5) (kq := 4) ⟨by decide, rfl⟩ rfl rfl rfl rfl (xe_mono (E_X7_pathUp_1 s649 hG_s649 z653 (by first | exact x_rbe e_z653 g_z653 rfl rfl | exact x_rb g_z653 rfl rfl | exact ⟨by omega, by omega⟩) x1 (by first | exact x_rb b_x1 rfl rfl | exact ⟨by omega, by omega⟩)) ?_)
        rintro s658 v ⟨-, t_s658, z657, rfl, b_z657, xp_z657⟩
        rw [t_s658.nil]
        try rw [t_s658.nil] at xp_z657
        show xe none 76 83 [(0, .ref 243), (1, vi x1), (2, vi x2)] [vj z657, vj z656, vi z655, .ref 255] s649 0 0 _
        have vf_ : VE s649 s0 := FL.ve f_s649 hG0 (by decide)
        refine x_lor_b k76_83 (fun z659 b_z659 g_z659 => ?_)
        refine x_last k76_84 (q := 255) (n := 40) ⟨by decide, rfl⟩ (by decide) (by first | exact x_rbel e_z655 g_z655 rfl rfl | exact x_rbl g_z655 rfl rfl | exact ⟨by omega, by omega⟩) ?_
        refine x_nh (fun s660 e_s660 => ?_)
        have hG_s660 : GI s660 := by rw [e_s660]; exact hG_s649.up (show in64 z659 from b_z659)
        have f_s660 : FL [3329, 3334, 3335, 3336, 3392, 3456, 3520, 3584, 3276, 3648, 3712, 3776, 3840, 3904, 3968, 3277, 4032] s0 s660 := by rw [e_s660]; exact f_s649.up (show 4032 ∈ [3329, 3334, 3335, 3336, 3392, 3456, 3520, 3584, 3276, 3648, 3712, 3776, 3840, 3904, 3968, 3277, 4032] from by decide)
        have q661 : s660 50 6 = x1000 := by rw [e_s660, x_up_q (by decide)]; exact q650
        have q662 : s660 243 12 = x1001 := by rw [e_s660, x_up_q (by decide)]; exact q651
        have q663 : s660 243 11 = x1002 := by rw [e_s660, x_up_q (by decide)]; exact q652
        have q664 : s660 253 x2.toNat = z653 := by rw [e_s660, x_up_q (by first | decide | omega)]; exact e_z653.symm
        have q665 : s660 51 x2.toNat = z655 := by rw [e_s660, x_up_q (by first | decide | omega)]; exact e_z655.symm
        have VJk_s660 : VJ s660 s0 := by rw [e_s660]; exact VJ.up VJk_s649 (show 4032 ∉ [3712, 3776, 3840] from by decide)
        refine x_iinc k76_85 (ls' := [(2, vi (x2 + 1)), (0, .ref 243), (1, vi x1)]) rfl (by decide) rfl ?_
        refine x_goto k76_88 (t := 28) rfl ?_
        refine x_ls (l := [(0, .ref 243), (1, vi x1), (2, vi (x2 + 1))]) (show ([0, 1, 2] : List Nat).Nodup from by decide) ⟨rfl, rfl, rfl, trivial⟩ ?_
        exact ih s660 x1 (x2 + 1) x1000 x1001 x1002 hG_s660 f_s660 (by first | exact x_rb b_x1 rfl rfl | exact ⟨by omega, by omega⟩) ⟨by omega, by omega⟩ (by first | exact x_rb b_x1000 rfl rfl | exact ⟨by omega, by omega⟩) (by first | exact x_rb b_x1001 rfl rfl | exact ⟨by omega, by omega⟩) (by first | exact x_rb b_x1002 rfl rfl | exact ⟨by omega, by omega⟩) (by omega) (by omega) (by omega) (by omega) VJk_s660 (MEn.add w_2 (by omega) (fun j => by rw [e_s660, x_up_q (by decide)]; exact sm_.1 j) rfl (by rw [e_s660, x_up_q (by decide)]; exact sm_.2.1) (fun j hj => by rw [e_s660, x_up_q (by decide)]; exact sm_.2.2 j hj)) (SHn.yes (p := z655) w_3 (by omega) ⟨by omega, by omega⟩ (by rw [← f_s660 51 _ (show 768 ∉ [3329, 3334, 3335, 3336, 3392, 3456, 3520, 3584, 3276, 3648, 3712, 3776, 3840, 3904, 3968, 3277, 4032] from by decide)]; exact q665) (fun j => by rw [e_s660, x_up_at, t_s649 255 j (show 4032 ∉ _ from by decide)]) (by rw [e_z656]; exact t_s649 255 _ (show 4032 ∉ _ from by decide)) g_z659 (fun k hk => by rw [xp_z657 k hk, vf_.on, ez_, show x1 = a by omega]) (by omega)) (q661).symm (q662).symm (q663).symm  (by omega)
set_option maxHeartbeats 8000000 in
theorem E_X8_lookIn_243 (s0 : xS) (hG0 : GI s0) (hJ0 : J s0) (a : Int) (b_a : 0 ≤ a ∧ a ≤ 9) (pR : R1 s0) (pj : VCj s0) (pl : VCl s0) : xe none 76 0 (lv_args 0 [.ref 243, vi a]) [] s0 0 0 (fun s' v => GI s' ∧ FL [3329, 3334, 3335, 3336, 3392, 3456, 3520, 3584, 3276, 3648, 3712, 3776, 3840, 3904, 3968, 3277, 4032] s0 s' ∧ v = none ∧ (VJ s' s0 ∧ VL s' s0 a ∧ s' 243 11 ≠ 0 ∧ s' 243 12 = a)) := by
  have f0 : FL [3329, 3334, 3335, 3336, 3392, 3456, 3520, 3584, 3276, 3648, 3712, 3776, 3840, 3904, 3968, 3277, 4032] s0 s0 := FL.rf
  show xe none 76 0 [(0, .ref 243), (1, vi a)] [] s0 0 0 _
  refine x_A k76_0 (fun _ => rfl) ?_
  refine x_getI k76_1 (f := 12) rfl (q := 243) (n := 13) (kd := 13) ⟨by decide, rfl⟩ (by decide) rfl ?_
  refine x_top (fun z666 e_z666 => ?_)
  have g_z666 : (-1) ≤ s0 243 12 ∧ s0 243 12 ≤ 9 := hG0 243 12
  refine x_A k76_4 (fun _ => rfl) ?_
  refine x_ic_ne k76_5 (t := 9) rfl (by first | exact x_rbe e_z666 g_z666 rfl rfl | exact x_rb g_z666 rfl rfl | exact ⟨by omega, by omega⟩) (by first | exact x_rb b_a rfl rfl | exact ⟨by omega, by omega⟩) (fun c667 => ?_) (fun c667 => ?_)
  · skip
    refine x_A k76_9 (fun _ => rfl) ?_
    refine x_A k76_10 (fun _ => rfl) ?_
    refine x_putI k76_11 (f := 12) rfl (q := 243) (n := 13) (kd := 13) ⟨by decide, rfl⟩ rfl rfl rfl ?_
    refine x_nh (fun s668 e_s668 => ?_)
    have hG_s668 : GI s668 := by rw [e_s668]; exact hG0.up (show (-1) ≤ a ∧ a ≤ 9 from (by first | exact x_rb b_a rfl rfl | exact ⟨by omega, by omega⟩))
    have f_s668 : FL [3329, 3334, 3335, 3336, 3392, 3456, 3520, 3584, 3276, 3648, 3712, 3776, 3840, 3904, 3968, 3277, 4032] s0 s668 := by rw [e_s668]; exact f0.up (show 3277 ∈ [3329, 3334, 3335, 3336, 3392, 3456, 3520, 3584, 3276, 3648, 3712, 3776, 3840, 3904, 3968, 3277, 4032] from by decide)
    have q669 : s668 243 12 = a := by rw [e_s668]; exact x_up_same
    refine x_A k76_14 (fun _ => rfl) ?_
    refine x_callV k76_15 (y := 74) (n := 0) (w0 := 0) (w1 := 0) (as := []) (rest := []) (by decide +kernel) (q := 243) (nq := 13) (kq := 13) ⟨by decide, rfl⟩ rfl rfl rfl rfl (xe_mono (E_X8_judge_243 s668 hG_s668 (hJ0.fl f_s668 (by decide)) (pR.fl f_s668 (by decide)) (by rw [e_s668]; exact VCj.up hG0 pj (show 3277 ∉ LVJ from by decide))) ?_)
    rintro s671 v ⟨hG_s671, t_s671, rfl, xp_z670⟩
    have f_s671 : FL [3329, 3334, 3335, 3336, 3392, 3456, 3520, 3584, 3276, 3648, 3712, 3776, 3840, 3904, 3968, 3277, 4032] s0 s671 := f_s668.tr t_s671 (by decide)
    have q672 : s671 243 12 = a := (t_s671 243 12 (show 3277 ∉ [3329, 3334, 3335, 3336, 3392, 3456, 3520, 3584, 3276, 3648, 3712, 3776, 3840] from by decide)).trans q669
    obtain ⟨z673, e_z673⟩ : ∃ z, z = s671 243 11 := ⟨_, rfl⟩
    have g_z673 : (0 : Int) ≤ s671 243 11 ∧ s671 243 11 ≤ 1 := hG_s671 243 11
    show xe none 76 18 [(0, .ref 243), (1, vi a)] [] s671 0 0 _
    have vk_ : VJ s671 s0 := VJ.cg xp_z670.1 (FL.ve f_s668 hG0 (by decide))
    refine x_A k76_18 (fun _ => rfl) ?_
    refine x_getR k76_19 (f := 10) rfl (q := 243) (n := 13) (kd := 13) ⟨by decide, rfl⟩ (q2 := 255) (by decide) rfl ?_
    refine x_lconst k76_22 (z := 0) (by decide +kernel) ?_
    refine x_callS k76_23 (y := 228) (n := 2) (w0 := 0) (w1 := 3) (as := [.ref 255, vj 0]) (rest := []) (by decide +kernel) rfl rfl rfl rfl (xe_mono (E255_J7_fill_d0a16_255 s671 hG_s671 0 ⟨by omega, by omega⟩) ?_)
    rintro s675 v ⟨hG_s675, t_s675, rfl, xp_z674⟩
    have f_s675 : FL [3329, 3334, 3335, 3336, 3392, 3456, 3520, 3584, 3276, 3648, 3712, 3776, 3840, 3904, 3968, 3277, 4032] s0 s675 := f_s671.tr t_s675 (by decide)
    have q676 : s675 243 12 = a := (t_s675 243 12 (show 3277 ∉ [4032] from by decide)).trans q672
    have q677 : s675 243 11 = z673 := (t_s675 243 11 (show 3276 ∉ [4032] from by decide)).trans e_z673.symm
    have VJk_s675 : VJ s675 s0 := VJ.fl vk_ t_s675 (by decide)
    show xe none 76 26 [(0, .ref 243), (1, vi a)] [] s675 0 0 _
    have e506_ : s675 50 6 = s0 50 6 := f_s675 50 6 (show 711 ∉ [3329, 3334, 3335, 3336, 3392, 3456, 3520, 3584, 3276, 3648, 3712, 3776, 3840, 3904, 3968, 3277, 4032] from by decide)
    refine x_A k76_26 (fun _ => rfl) ?_
    refine x_istore_n k76_27 (ls' := [(2, vi 0), (0, .ref 243), (1, vi a)]) (by decide) rfl ?_
    obtain ⟨z678, e_z678⟩ : ∃ z, z = s675 50 6 := ⟨_, rfl⟩
    have g_z678 : (0 : Int) ≤ s675 50 6 ∧ s675 50 6 ≤ 120 := hG_s675 50 6
    refine x_ls (l := [(0, .ref 243), (1, vi a), (2, vi 0)]) (show ([0, 1, 2] : List Nat).Nodup from by decide) ⟨rfl, rfl, rfl, trivial⟩ ?_
    exact L_E_X8_lookIn_243_28 s0 hJ0 hG0 a b_a pR pj pl  (((120 - 0) + 1 : Int)).toNat s675 a 0 z678 a z673 hG_s675 f_s675 (by first | exact x_rb b_a rfl rfl | exact ⟨by omega, by omega⟩) ⟨by decide, by decide⟩ (by first | exact x_rbe e_z678 g_z678 rfl rfl | exact x_rb g_z678 rfl rfl | exact ⟨by omega, by omega⟩) (by first | exact x_rb b_a rfl rfl | exact ⟨by omega, by omega⟩) (by first | exact x_rbe e_z673 g_z673 rfl rfl | exact x_rb g_z673 rfl rfl | exact ⟨by omega, by omega⟩) (by omega) (by omega) (by omega) (by omega) VJk_s675 MEn_0 (SHn_0 (fun j hj => xp_z674 j hj)) (e_z678.symm).symm (q676).symm (q677).symm  (by omega)
  · skip
    obtain ⟨z679, e_z679⟩ : ∃ z, z = s0 243 11 := ⟨_, rfl⟩
    have g_z679 : (0 : Int) ≤ s0 243 11 ∧ s0 243 11 ≤ 1 := hG0 243 11
    exact x_vret k76_8 rfl ⟨hG0, f0, rfl, ⟨pj (pl (by omega)).1, (by have q := (pl (by omega)).2; rw [show s0 243 12 = a by omega] at q; exact q), (pl (by omega)).1, by omega⟩⟩
