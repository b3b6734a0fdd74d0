set_option maxHeartbeats 8000000 in
theorem E_X11_told_256 (s0 : xS) (hG0 : GI s0) (hJ0 : J s0) (a : Int) (b_a : (-2147483648) ≤ a ∧ a ≤ 2147483647) (b : Int) (b_b : (-2147483648) ≤ b ∧ b ≤ 2147483647) (pR : R1 s0) (pT : TR s0) (pG1 : G1 s0) (pG3 : G3 s0) : xe none 158 0 (lv_args 0 [.ref 256, vi a, vi b]) [] s0 0 0 (fun s' v => GI s' ∧ FL [5312, 5376, 4123, 5440, 5504, 5568] s0 s' ∧ ∃ z, v = some (vi z) ∧ ((-1004) ≤ z ∧ z ≤ 120) ∧ (ToC s0 a b z)) := by
  have f0 : FL [5312, 5376, 4123, 5440, 5504, 5568] s0 s0 := FL.rf
  show xe none 158 0 [(0, .ref 256), (1, vi a), (2, vi b)] [] s0 0 0 _
  refine x_A k158_0 (fun _ => rfl) ?_
  refine x_A k158_1 (fun _ => rfl) ?_
  obtain ⟨z1, e_z1⟩ : ∃ z, z = s0 256 10 := ⟨_, rfl⟩
  have g_z1 : (0 : Int) ≤ s0 256 10 ∧ s0 256 10 ≤ 120 := hG0 256 10
  refine x_callV k158_2 (y := 152) (n := 1) (w0 := 0) (w1 := 1) (as := [vi a]) (rest := []) (by decide +kernel) (q := 256) (nq := 62) (kq := 15) ⟨by decide, rfl⟩ rfl rfl rfl rfl (xe_mono (C_X11_isGiving_256 s0 hG0 a (by first | exact x_rb b_a rfl rfl | exact ⟨by omega, by omega⟩)) ?_)
  rintro s3 v ⟨h_s3, z2, rfl, hz_z2⟩
  rw [h_s3]
  rcases hz_z2 with ⟨c_z2, e_z2⟩ | ⟨c_z2, e_z2⟩
  · rw [e_z2]
    show xe none 158 5 [(0, .ref 256), (1, vi a), (2, vi b)] [vi 1] s0 0 0 _
    refine x_if_ne k158_5 (t := 12) rfl ⟨by decide, by decide⟩ (fun c4 => ?_) (fun c4 => by exfalso; omega)
    refine x_A k158_12 (fun _ => rfl) ?_
    refine x_callV k158_13 (y := 166) (n := 0) (w0 := 0) (w1 := 0) (as := []) (rest := []) (by decide +kernel) (q := 256) (nq := 62) (kq := 15) ⟨by decide, rfl⟩ rfl rfl rfl rfl (xe_mono (E_X11_findWrong_256 s0 hG0 (hJ0.fl f0 (by decide)) (pR.fl f0 (by decide)) (pT.fl (hG0 256 1).2 f0 (by decide)) (pG1.fl f0 (by decide)) (pG3.fl f0 (by decide))) ?_)
    rintro s6 v ⟨hG_s6, t_s6, rfl, xp_z5⟩
    have f_s6 : FL [5312, 5376, 4123, 5440, 5504, 5568] s0 s6 := f0.tr t_s6 (by decide)
    have q7 : s6 256 10 = z1 := (t_s6 256 10 (show 4107 ∉ [5312, 5376, 4123, 5440, 5504, 5568] from by decide)).trans e_z1.symm
    show xe none 158 16 [(0, .ref 256), (1, vi a), (2, vi b)] [] s6 0 0 _
    obtain ⟨⟨y51, y52, y54, y55⟩, y46, ytd, ynow⟩ := pG3.2 a (by omega) (by omega) (by have q := pG1.1; omega)
    obtain ⟨y53, yd⟩ := pG1.2 a (by omega) (by omega) (by omega)
    have wz_ := (xp_z5 a (by omega) (by omega)).1
    have f0_ := f_s6
    refine x_A k158_16 (fun _ => rfl) ?_
    have c8 : b = 0 ∨ b = 1 ∨ b = 2 ∨ b = 3 ∨ b = 4 ∨ b = 5 ∨ b = 6 ∨ ¬ (0 ≤ b ∧ b ≤ 6) := by omega
    rcases c8 with c8 | c8 | c8 | c8 | c8 | c8 | c8 | c8
    · rw [c8]
      refine x_B k158_17 rfl (fun _ => rfl) (fun _ => rfl) (fun _ _ => rfl) ?_
      show xe none 158 60 [(0, .ref 256), (1, vi a), (2, vi 0)] [] s6 0 0 _
      refine x_A k158_60 (fun _ => rfl) ?_
      refine x_getR k158_61 (f := 11) rfl (q := 256) (n := 62) (kd := 15) ⟨by decide, rfl⟩ (q2 := 264) (by decide) rfl ?_
      refine x_A k158_64 (fun _ => rfl) ?_
      refine x_iald k158_65 (q := 264) (n := 120) ⟨by decide, rfl⟩ (by decide) (by first | exact x_rbl b_a rfl rfl | exact ⟨by omega, by omega⟩) ?_
      refine x_top (fun z9 e_z9 => ?_)
      have g_z9 : (0 : Int) ≤ s6 264 a.toNat ∧ s6 264 a.toNat ≤ 39 := hG_s6 264 a.toNat
      exact x_iret k158_66 rfl ⟨hG_s6, f_s6, z9, rfl, (by first | exact x_rbe e_z9 g_z9 rfl rfl | exact x_rb g_z9 rfl rfl | exact ⟨by omega, by omega⟩), (by unfold ToC; exact Or.inr (Or.inr ⟨by have q := pG1.1; omega, by omega, by (try rw [show b = 0 by omega]); show z9 = toC s0 a 0; unfold toC; rw [if_pos rfl]; exact (by rw [e_z9, y51, ← f0_ 264 _ (show 4608 ∉ [5312, 5376, 4123, 5440, 5504, 5568] from by decide)])⟩))⟩
    · rw [c8]
      refine x_B k158_17 rfl (fun _ => rfl) (fun _ => rfl) (fun _ _ => rfl) ?_
      show xe none 158 67 [(0, .ref 256), (1, vi a), (2, vi 1)] [] s6 0 0 _
      refine x_A k158_67 (fun _ => rfl) ?_
      refine x_getR k158_68 (f := 12) rfl (q := 256) (n := 62) (kd := 15) ⟨by decide, rfl⟩ (q2 := 265) (by decide) rfl ?_
      refine x_A k158_71 (fun _ => rfl) ?_
      refine x_iald k158_72 (q := 265) (n := 120) ⟨by decide, rfl⟩ (by decide) (by first | exact x_rbl b_a rfl rfl | exact ⟨by omega, by omega⟩) ?_
      refine x_top (fun z10 e_z10 => ?_)
      have g_z10 : (0 : Int) ≤ s6 265 a.toNat ∧ s6 265 a.toNat ≤ 39 := hG_s6 265 a.toNat
      exact x_iret k158_73 rfl ⟨hG_s6, f_s6, z10, rfl, (by first | exact x_rbe e_z10 g_z10 rfl rfl | exact x_rb g_z10 rfl rfl | exact ⟨by omega, by omega⟩), (by unfold ToC; exact Or.inr (Or.inr ⟨by have q := pG1.1; omega, by omega, by (try rw [show b = 1 by omega]); show z10 = toC s0 a 1; unfold toC; rw [if_neg (by decide), if_pos rfl]; exact (by rw [e_z10, y52, ← f0_ 265 _ (show 4672 ∉ [5312, 5376, 4123, 5440, 5504, 5568] from by decide)])⟩))⟩
    · rw [c8]
      refine x_B k158_17 rfl (fun _ => rfl) (fun _ => rfl) (fun _ _ => rfl) ?_
      show xe none 158 74 [(0, .ref 256), (1, vi a), (2, vi 2)] [] s6 0 0 _
      refine x_A k158_74 (fun _ => rfl) ?_
      refine x_getR k158_75 (f := 13) rfl (q := 256) (n := 62) (kd := 15) ⟨by decide, rfl⟩ (q2 := 266) (by decide) rfl ?_
      refine x_A k158_78 (fun _ => rfl) ?_
      refine x_iald k158_79 (q := 266) (n := 120) ⟨by decide, rfl⟩ (by decide) (by first | exact x_rbl b_a rfl rfl | exact ⟨by omega, by omega⟩) ?_
      refine x_top (fun z11 e_z11 => ?_)
      have g_z11 : (0 : Int) ≤ s6 266 a.toNat ∧ s6 266 a.toNat ≤ 7 := hG_s6 266 a.toNat
      exact x_iret k158_80 rfl ⟨hG_s6, f_s6, z11, rfl, (by first | exact x_rbe e_z11 g_z11 rfl rfl | exact x_rb g_z11 rfl rfl | exact ⟨by omega, by omega⟩), (by unfold ToC; exact Or.inr (Or.inr ⟨by have q := pG1.1; omega, by omega, by (try rw [show b = 2 by omega]); show z11 = toC s0 a 2; unfold toC; rw [if_neg (by decide), if_neg (by decide), if_pos rfl]; exact (by rw [e_z11, y53, ← f0_ 266 _ (show 4736 ∉ [5312, 5376, 4123, 5440, 5504, 5568] from by decide)])⟩))⟩
    · rw [c8]
      refine x_B k158_17 rfl (fun _ => rfl) (fun _ => rfl) (fun _ _ => rfl) ?_
      show xe none 158 81 [(0, .ref 256), (1, vi a), (2, vi 3)] [] s6 0 0 _
      refine x_A k158_81 (fun _ => rfl) ?_
      refine x_getR k158_82 (f := 14) rfl (q := 256) (n := 62) (kd := 15) ⟨by decide, rfl⟩ (q2 := 267) (by decide) rfl ?_
      refine x_A k158_85 (fun _ => rfl) ?_
      refine x_iald k158_86 (q := 267) (n := 120) ⟨by decide, rfl⟩ (by decide) (by first | exact x_rbl b_a rfl rfl | exact ⟨by omega, by omega⟩) ?_
      refine x_top (fun z12 e_z12 => ?_)
      have g_z12 : (0 : Int) ≤ s6 267 a.toNat ∧ s6 267 a.toNat ≤ 63 := hG_s6 267 a.toNat
      exact x_iret k158_87 rfl ⟨hG_s6, f_s6, z12, rfl, (by first | exact x_rbe e_z12 g_z12 rfl rfl | exact x_rb g_z12 rfl rfl | exact ⟨by omega, by omega⟩), (by unfold ToC; exact Or.inr (Or.inr ⟨by have q := pG1.1; omega, by omega, by (try rw [show b = 3 by omega]); show z12 = toC s0 a 3; unfold toC; rw [if_neg (by decide), if_neg (by decide), if_neg (by decide), if_pos rfl]; exact (by rw [e_z12, y54, ← f0_ 267 _ (show 4800 ∉ [5312, 5376, 4123, 5440, 5504, 5568] from by decide)])⟩))⟩
    · rw [c8]
      refine x_B k158_17 rfl (fun _ => rfl) (fun _ => rfl) (fun _ _ => rfl) ?_
      show xe none 158 88 [(0, .ref 256), (1, vi a), (2, vi 4)] [] s6 0 0 _
      refine x_A k158_88 (fun _ => rfl) ?_
      refine x_getR k158_89 (f := 15) rfl (q := 256) (n := 62) (kd := 15) ⟨by decide, rfl⟩ (q2 := 268) (by decide) rfl ?_
      refine x_A k158_92 (fun _ => rfl) ?_
      refine x_iald k158_93 (q := 268) (n := 120) ⟨by decide, rfl⟩ (by decide) (by first | exact x_rbl b_a rfl rfl | exact ⟨by omega, by omega⟩) ?_
      refine x_top (fun z13 e_z13 => ?_)
      have g_z13 : (0 : Int) ≤ s6 268 a.toNat ∧ s6 268 a.toNat ≤ 9 := hG_s6 268 a.toNat
      exact x_iret k158_94 rfl ⟨hG_s6, f_s6, z13, rfl, (by first | exact x_rbe e_z13 g_z13 rfl rfl | exact x_rb g_z13 rfl rfl | exact ⟨by omega, by omega⟩), (by unfold ToC; exact Or.inr (Or.inr ⟨by have q := pG1.1; omega, by omega, by (try rw [show b = 4 by omega]); show z13 = toC s0 a 4; unfold toC; rw [if_neg (by decide), if_neg (by decide), if_neg (by decide), if_neg (by decide), if_pos rfl]; exact (by rw [e_z13, y55, ← f0_ 268 _ (show 4864 ∉ [5312, 5376, 4123, 5440, 5504, 5568] from by decide)])⟩))⟩
    · rw [c8]
      refine x_B k158_17 rfl (fun _ => rfl) (fun _ => rfl) (fun _ _ => rfl) ?_
      show xe none 158 95 [(0, .ref 256), (1, vi a), (2, vi 5)] [] s6 0 0 _
      refine x_A k158_95 (fun _ => rfl) ?_
      refine x_getR k158_96 (f := 27) rfl (q := 256) (n := 62) (kd := 15) ⟨by decide, rfl⟩ (q2 := 277) (by decide) rfl ?_
      refine x_A k158_99 (fun _ => rfl) ?_
      refine x_iald k158_100 (q := 277) (n := 120) ⟨by decide, rfl⟩ (by decide) (by first | exact x_rbl b_a rfl rfl | exact ⟨by omega, by omega⟩) ?_
      refine x_top (fun z14 e_z14 => ?_)
      have g_z14 : (0 : Int) ≤ s6 277 a.toNat ∧ s6 277 a.toNat ≤ 4 := hG_s6 277 a.toNat
      exact x_iret k158_101 rfl ⟨hG_s6, f_s6, z14, rfl, (by first | exact x_rbe e_z14 g_z14 rfl rfl | exact x_rb g_z14 rfl rfl | exact ⟨by omega, by omega⟩), (by unfold ToC; exact Or.inr (Or.inr ⟨by have q := pG1.1; omega, by omega, by (try rw [show b = 5 by omega]); show z14 = toC s0 a 5; unfold toC; rw [if_neg (by decide), if_neg (by decide), if_neg (by decide), if_neg (by decide), if_neg (by decide), if_pos rfl]; exact (by rw [e_z14]; exact wz_)⟩))⟩
    · rw [c8]
      refine x_B k158_17 rfl (fun _ => rfl) (fun _ => rfl) (fun _ _ => rfl) ?_
      show xe none 158 102 [(0, .ref 256), (1, vi a), (2, vi 6)] [] s6 0 0 _
      refine x_A k158_102 (fun _ => rfl) ?_
      refine x_A k158_103 (fun _ => rfl) ?_
      refine x_A k158_104 (fun _ => rfl) ?_
      refine x_getI k158_105 (f := 0) rfl (q := 256) (n := 62) (kd := 15) ⟨by decide, rfl⟩ (by decide) rfl ?_
      refine x_top (fun z15 e_z15 => ?_)
      have g_z15 : (0 : Int) ≤ s6 256 0 ∧ s6 256 0 ≤ 9 := hG_s6 256 0
      refine x_callV k158_108 (y := 156) (n := 2) (w0 := 0) (w1 := 2) (as := [vi a, vi z15]) (rest := []) (by decide +kernel) (q := 256) (nq := 62) (kq := 15) ⟨by decide, rfl⟩ rfl rfl rfl rfl (xe_mono (E_X11_doubts_256 s6 hG_s6 a (by first | exact x_rb b_a rfl rfl | exact ⟨by omega, by omega⟩) z15 (by first | exact x_rbe e_z15 g_z15 rfl rfl | exact x_rb g_z15 rfl rfl | exact ⟨by omega, by omega⟩)) ?_)
      rintro s17 v ⟨-, t_s17, z16, rfl, g_z16, xp_z16⟩
      rw [t_s17.nil]
      try rw [t_s17.nil] at xp_z16
      show xe none 158 111 [(0, .ref 256), (1, vi a), (2, vi 6)] [vi z16] s6 0 0 _
      exact x_iret k158_111 rfl ⟨hG_s6, f_s6, z16, rfl, (by first | exact x_rbe e_z16 g_z16 rfl rfl | exact x_rb g_z16 rfl rfl | exact ⟨by omega, by omega⟩), (by unfold ToC; exact Or.inr (Or.inr ⟨by have q := pG1.1; omega, by omega, by (try rw [show b = 6 by omega]); show z16 = toC s0 a 6; unfold toC; rw [if_neg (by decide), if_neg (by decide), if_neg (by decide), if_neg (by decide), if_neg (by decide), if_neg (by decide)]; exact (by rw [xp_z16]; unfold dcC; rw [show z15 = s0 0 10 by (have q := pT.1.1; have q0 := f0_ 256 0 (show 4097 ∉ [5312, 5376, 4123, 5440, 5504, 5568] from by decide); omega)]; exact dcn_cg 8 (fun j hj => by rw [f0_ 269 _ (show 4928 ∉ [5312, 5376, 4123, 5440, 5504, 5568] from by decide)]; exact (yd j (by omega) (by omega)).symm))⟩))⟩
    · refine x_tabD k158_17 ⟨by omega, by omega⟩ c8 (t0 := 112) rfl ?_
      refine x_sipush k158_112 (by decide +kernel) ?_
      exact x_iret k158_115 rfl ⟨hG_s6, f_s6, (-1002), rfl, ⟨by decide, by decide⟩, (by unfold ToC; exact Or.inr (Or.inl ⟨by have q := pG1.1; omega, by omega, rfl⟩))⟩
  · rw [e_z2]
    show xe none 158 5 [(0, .ref 256), (1, vi a), (2, vi b)] [vi 0] s0 0 0 _
    refine x_if_ne k158_5 (t := 12) rfl ⟨by decide, by decide⟩ (fun c18 => by exfalso; omega) (fun c18 => ?_)
    refine x_sipush k158_8 (by decide +kernel) ?_
    exact x_iret k158_11 rfl ⟨hG0, f0, (-1001), rfl, ⟨by decide, by decide⟩, (by unfold ToC; exact Or.inl ⟨by have q := pG1.1; omega, rfl⟩)⟩
