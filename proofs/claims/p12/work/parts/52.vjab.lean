set_option maxHeartbeats 8000000 in
theorem W_X11_means_256 (s0 : xS) (hG0 : GI s0) (hJ0 : J s0) (a : Int) (b_a : (-2147483648) ≤ a ∧ a ≤ 2147483647) (b : Int) (b_b : (-2147483648) ≤ b ∧ b ≤ 2147483647) (d : Int) (b_d : (-2147483648) ≤ d ∧ d ≤ 2147483647) (p_256_10 : 0 ≤ s0 256 10 ∧ s0 256 10 ≤ 120) (p_256_0 : 0 ≤ s0 256 0 ∧ s0 256 0 ≤ 9) (pR : R1 s0) (pT : TR s0) (pG1 : G1 s0) (pG3 : G3 s0) : xe none 172 0 (lv_args 0 [.ref 256, vi a, vi b, vi d]) [] s0 0 0 (fun s' v => GI s' ∧ FL [5312, 5376, 4123, 5440, 5504, 5568, 5632, 5696, 5760] s0 s' ∧ ∃ z, v = some (vi z) ∧ ((-1004) ≤ z ∧ z ≤ 120) ∧ (MeS s0 a b d z)) := by
  have f0 : FL [5312, 5376, 4123, 5440, 5504, 5568, 5632, 5696, 5760] s0 s0 := FL.rf
  show xe none 172 0 [(0, .ref 256), (1, vi a), (2, vi b), (3, vi d)] [] s0 0 0 _
  obtain ⟨z1, e_z1⟩ : ∃ z, z = s0 256 10 := ⟨_, rfl⟩
  have g_z1 : (0 : Int) ≤ s0 256 10 ∧ s0 256 10 ≤ 120 := hG0 256 10
  obtain ⟨z2, e_z2⟩ : ∃ z, z = s0 256 0 := ⟨_, rfl⟩
  have g_z2 : (0 : Int) ≤ s0 256 0 ∧ s0 256 0 ≤ 9 := hG0 256 0
  refine x_A k172_0 (fun _ => rfl) ?_
  refine x_A k172_1 (fun _ => rfl) ?_
  refine x_callV k172_2 (y := 152) (n := 1) (w0 := 0) (w1 := 1) (as := [vi a]) (rest := []) (by decide +kernel) (q := 256) (nq := 62) (kq := 15) ⟨by decide, rfl⟩ rfl rfl rfl rfl (xe_mono (C_X11_isGiving_256 s0 hG0 a (by first | exact x_rb b_a rfl rfl | exact ⟨by omega, by omega⟩)) ?_)
  rintro s4 v ⟨h_s4, z3, rfl, hz_z3⟩
  rw [h_s4]
  rcases hz_z3 with ⟨c_z3, e_z3⟩ | ⟨c_z3, e_z3⟩
  · rw [e_z3]
    show xe none 172 5 [(0, .ref 256), (1, vi a), (2, vi b), (3, vi d)] [vi 1] s0 0 0 _
    refine x_if_ne k172_5 (t := 12) rfl ⟨by decide, by decide⟩ (fun c5 => ?_) (fun c5 => by exfalso; omega)
    refine x_A k172_12 (fun _ => rfl) ?_
    refine x_A k172_13 (fun _ => rfl) ?_
    refine x_callV k172_14 (y := 138) (n := 1) (w0 := 0) (w1 := 1) (as := [vi b]) (rest := []) (by decide +kernel) (q := 256) (nq := 62) (kq := 15) ⟨by decide, rfl⟩ rfl rfl rfl rfl (xe_mono (C_X11_isEdition_256 s0 hG0 b (by first | exact x_rb b_b rfl rfl | exact ⟨by omega, by omega⟩)) ?_)
    rintro s7 v ⟨h_s7, z6, rfl, hz_z6⟩
    rw [h_s7]
    rcases hz_z6 with ⟨c_z6, e_z6⟩ | ⟨c_z6, e_z6⟩
    · rw [e_z6]
      show xe none 172 17 [(0, .ref 256), (1, vi a), (2, vi b), (3, vi d)] [vi 1] s0 0 0 _
      refine x_if_eq k172_17 (t := 32) rfl ⟨by decide, by decide⟩ (fun c8 => by exfalso; omega) (fun c8 => ?_)
      refine x_A k172_20 (fun _ => rfl) ?_
      refine x_i2l k172_21 (by first | exact x_rb b_d rfl rfl | exact ⟨by omega, by omega⟩) ?_
      refine x_lconst k172_22 (z := 0) (by decide +kernel) ?_
      refine x_ldc2 k172_23 (z := 2) rfl (by decide +kernel) ?_
      refine x_callS k172_26 (y := 136) (n := 3) (w0 := 0) (w1 := 6) (as := [vj d, vj 0, vj 2]) (rest := []) (by decide +kernel) rfl rfl rfl rfl (xe_mono (C_X11_in s0 hG0 d ⟨by omega, by omega⟩ 0 ⟨by omega, by omega⟩ 2 ⟨by omega, by omega⟩) ?_)
      rintro s10 v ⟨h_s10, z9, rfl, hz_z9⟩
      rw [h_s10]
      rcases hz_z9 with ⟨c_z9, e_z9⟩ | ⟨c_z9, e_z9⟩
      · rw [e_z9]
        show xe none 172 29 [(0, .ref 256), (1, vi a), (2, vi b), (3, vi d)] [vi 1] s0 0 0 _
        refine x_if_ne k172_29 (t := 36) rfl ⟨by decide, by decide⟩ (fun c11 => ?_) (fun c11 => by exfalso; omega)
        refine x_A k172_36 (fun _ => rfl) ?_
        refine x_getR k172_37 (f := 15) rfl (q := 256) (n := 62) (kd := 15) ⟨by decide, rfl⟩ (q2 := 268) (by decide) rfl ?_
        refine x_A k172_40 (fun _ => rfl) ?_
        refine x_iald k172_41 (q := 268) (n := 120) ⟨by decide, rfl⟩ (by decide) (by first | exact x_rbl b_a rfl rfl | exact ⟨by omega, by omega⟩) ?_
        refine x_top (fun z12 e_z12 => ?_)
        have g_z12 : (0 : Int) ≤ s0 268 a.toNat ∧ s0 268 a.toNat ≤ 9 := hG0 268 a.toNat
        refine x_A k172_42 (fun _ => rfl) ?_
        refine x_ic_le k172_43 (t := 50) rfl (by first | exact x_rbe e_z12 g_z12 rfl rfl | exact x_rb g_z12 rfl rfl | exact ⟨by omega, by omega⟩) (by first | exact x_rb b_b rfl rfl | exact ⟨by omega, by omega⟩) (fun c13 => ?_) (fun c13 => ?_)
        · skip
          refine x_A k172_50 (fun _ => rfl) ?_
          refine x_A k172_51 (fun _ => rfl) ?_
          refine x_callV k172_52 (y := 168) (n := 1) (w0 := 0) (w1 := 1) (as := [vi b]) (rest := []) (by decide +kernel) (q := 256) (nq := 62) (kq := 15) ⟨by decide, rfl⟩ rfl rfl rfl rfl (xe_mono (E_X11_find_256 s0 hG0 (hJ0.fl f0 (by decide)) b (by first | exact x_rb b_b rfl rfl | exact ⟨by omega, by omega⟩) (pR.fl f0 (by decide)) (pT.fl (hG0 256 1).2 f0 (by decide)) (pG1.fl f0 (by decide)) (pG3.fl f0 (by decide))) ?_)
          rintro s15 v ⟨hG_s15, t_s15, rfl, xp_z14⟩
          have f_s15 : FL [5312, 5376, 4123, 5440, 5504, 5568, 5632, 5696, 5760] s0 s15 := f0.tr t_s15 (by decide)
          have q16 : s15 256 10 = z1 := (t_s15 256 10 (show 4107 ∉ [5312, 5376, 4123, 5440, 5504, 5568, 5632, 5696, 5760] from by decide)).trans e_z1.symm
          have q17 : s15 256 0 = z2 := (t_s15 256 0 (show 4097 ∉ [5312, 5376, 4123, 5440, 5504, 5568, 5632, 5696, 5760] from by decide)).trans e_z2.symm
          have q18 : s15 268 a.toNat = z12 := (t_s15 268 a.toNat (show 4864 ∉ [5312, 5376, 4123, 5440, 5504, 5568, 5632, 5696, 5760] from by decide)).trans e_z12.symm
          show xe none 172 55 [(0, .ref 256), (1, vi a), (2, vi b), (3, vi d)] [] s15 0 0 _
          have pg_ := pG1.1
          have pg3_ := pG3.1
          refine x_A k172_55 (fun _ => rfl) ?_
          refine x_if_ne k172_56 (t := 68) rfl (by first | exact x_rb b_d rfl rfl | exact ⟨by omega, by omega⟩) (fun c19 => ?_) (fun c19 => ?_)
          · skip
            refine x_A k172_68 (fun _ => rfl) ?_
            refine x_A k172_69 (fun _ => rfl) ?_
            refine x_ic_ne k172_70 (t := 85) rfl (by first | exact x_rb b_d rfl rfl | exact ⟨by omega, by omega⟩) ⟨by decide, by decide⟩ (fun c20 => ?_) (fun c20 => ?_)
            · skip
              refine x_A k172_85 (fun _ => rfl) ?_
              refine x_A k172_86 (fun _ => rfl) ?_
              refine x_A k172_87 (fun _ => rfl) ?_
              have e10_ := f_s15 256 10 (show 4107 ∉ [5312, 5376, 4123, 5440, 5504, 5568, 5632, 5696, 5760] from by decide)
              have e6_ := f_s15 256 6 (show 4103 ∉ [5312, 5376, 4123, 5440, 5504, 5568, 5632, 5696, 5760] from by decide)
              have e506_ := f_s15 50 6 (show 711 ∉ [5312, 5376, 4123, 5440, 5504, 5568, 5632, 5696, 5760] from by decide)
              have y55_ := (pG3.2 a (by omega) (by omega) (by omega)).1.2.2.2
              have e268_ : s0 268 a.toNat = z12 := by rw [← f_s15 268 _ (show 4864 ∉ [5312, 5376, 4123, 5440, 5504, 5568, 5632, 5696, 5760] from by decide)]; exact q18
              refine x_callV k172_88 (y := 171) (n := 2) (w0 := 0) (w1 := 2) (as := [vi a, vi b]) (rest := []) (by decide +kernel) (q := 256) (nq := 62) (kq := 15) ⟨by decide, rfl⟩ rfl rfl rfl rfl (xe_mono (E_X11_lacks_256 s15 hG_s15 (hJ0.fl f_s15 (by decide)) a (by first | exact x_rb b_a rfl rfl | exact ⟨by omega, by omega⟩) b (by first | exact x_rb b_b rfl rfl | exact ⟨by omega, by omega⟩) (pR.fl f_s15 (by decide)) (pT.fl (hG0 256 1).2 f_s15 (by decide)) (pG1.fl f_s15 (by decide)) (pG3.fl f_s15 (by decide)) (by omega) (by rw [f_s15 55 _ (show 1024 ∉ [5312, 5376, 4123, 5440, 5504, 5568, 5632, 5696, 5760] from by decide)]; omega) (FdZ.ve xp_z14 (FL.ve f_s15 hG0 (by decide)).sy e10_.symm e6_.symm (by omega))) ?_)
              rintro s22 v ⟨hG_s22, t_s22, z21, rfl, g_z21, xp_z21⟩
              have f_s22 : FL [5312, 5376, 4123, 5440, 5504, 5568, 5632, 5696, 5760] s0 s22 := f_s15.tr t_s22 (by decide)
              have q23 : s22 256 10 = z1 := (t_s22 256 10 (show 4107 ∉ [5312, 5376, 4123] from by decide)).trans q16
              have q24 : s22 256 0 = z2 := (t_s22 256 0 (show 4097 ∉ [5312, 5376, 4123] from by decide)).trans q17
              have q25 : s22 268 a.toNat = z12 := (t_s22 268 a.toNat (show 4864 ∉ [5312, 5376, 4123] from by decide)).trans q18
              show xe none 172 91 [(0, .ref 256), (1, vi a), (2, vi b), (3, vi d)] [vi z21] s22 0 0 _
              refine x_if_eq k172_91 (t := 98) rfl (by first | exact x_rbe e_z21 g_z21 rfl rfl | exact x_rb g_z21 rfl rfl | exact ⟨by omega, by omega⟩) (fun c26 => ?_) (fun c26 => ?_)
              · skip
                refine x_A k172_98 (fun _ => rfl) ?_
                exact x_iret k172_99 rfl ⟨hG_s22, f_s22, 0, rfl, ⟨by decide, by decide⟩, (by have q1 := pG1.1; have q0 := pT.1.1; have q3 := pG3.1; have y55 := (pG3.2 a (by omega) (by omega) (by omega)).1.2.2.2; unfold MeS; exact Or.inr (Or.inr (Or.inr ⟨by omega, by omega, by omega, (by rw [show d = 2 by omega]; show (0 : Int) = pIf (laC s0 b a) 1 0; have q := xp_z21; rw [(FL.ve f_s15 hG0 (by decide)).la] at q; rw [show z21 = 0 by omega] at q; exact pIf_b q)⟩)))⟩
              · skip
                refine x_A k172_94 (fun _ => rfl) ?_
                refine x_goto k172_95 (t := 99) rfl ?_
                exact x_iret k172_99 rfl ⟨hG_s22, f_s22, 1, rfl, ⟨by decide, by decide⟩, (by have q1 := pG1.1; have q0 := pT.1.1; have q3 := pG3.1; have y55 := (pG3.2 a (by omega) (by omega) (by omega)).1.2.2.2; unfold MeS; exact Or.inr (Or.inr (Or.inr ⟨by omega, by omega, by omega, (by rw [show d = 2 by omega]; show (1 : Int) = pIf (laC s0 b a) 1 0; have q := xp_z21; rw [(FL.ve f_s15 hG0 (by decide)).la] at q; rw [show z21 = 1 by omega] at q; exact pIf_b q)⟩)))⟩
            · skip
              refine x_A k172_73 (fun _ => rfl) ?_
              refine x_getR k172_74 (f := 31) rfl (q := 256) (n := 62) (kd := 15) ⟨by decide, rfl⟩ (q2 := 281) (by decide) rfl ?_
              refine x_A k172_77 (fun _ => rfl) ?_
              refine x_bald k172_78 (q := 281) (n := 120) ⟨by decide, rfl⟩ (by decide) (by first | exact x_rbl b_a rfl rfl | exact ⟨by omega, by omega⟩) ?_
              refine x_top (fun z27 e_z27 => ?_)
              have g_z27 : (0 : Int) ≤ s15 281 a.toNat ∧ s15 281 a.toNat ≤ 1 := hG_s15 281 a.toNat
              refine x_if_eq k172_79 (t := 98) rfl (by first | exact x_rbe e_z27 g_z27 rfl rfl | exact x_rb g_z27 rfl rfl | exact ⟨by omega, by omega⟩) (fun c28 => ?_) (fun c28 => ?_)
              · skip
                refine x_A k172_98 (fun _ => rfl) ?_
                exact x_iret k172_99 rfl ⟨hG_s15, f_s15, 0, rfl, ⟨by decide, by decide⟩, (by have q1 := pG1.1; have q0 := pT.1.1; have q3 := pG3.1; have y55 := (pG3.2 a (by omega) (by omega) (by omega)).1.2.2.2; unfold MeS; exact Or.inr (Or.inr (Or.inr ⟨by omega, by omega, by omega, (by rw [show d = 1 by omega]; show (0 : Int) = pIf (loC s0 b a) 1 0; have q := (xp_z14.me (g := a) ⟨by omega, by omega⟩).2.1; rw [e_z27.symm] at q; exact pIf_b (by rw [← q]; omega))⟩)))⟩
              · skip
                refine x_goto k172_82 (t := 94) rfl ?_
                refine x_A k172_94 (fun _ => rfl) ?_
                refine x_goto k172_95 (t := 99) rfl ?_
                exact x_iret k172_99 rfl ⟨hG_s15, f_s15, 1, rfl, ⟨by decide, by decide⟩, (by have q1 := pG1.1; have q0 := pT.1.1; have q3 := pG3.1; have y55 := (pG3.2 a (by omega) (by omega) (by omega)).1.2.2.2; unfold MeS; exact Or.inr (Or.inr (Or.inr ⟨by omega, by omega, by omega, (by rw [show d = 1 by omega]; show (1 : Int) = pIf (loC s0 b a) 1 0; have q := (xp_z14.me (g := a) ⟨by omega, by omega⟩).2.1; rw [e_z27.symm] at q; exact pIf_b (by rw [← q]; omega))⟩)))⟩
          · skip
            refine x_A k172_59 (fun _ => rfl) ?_
            refine x_getR k172_60 (f := 30) rfl (q := 256) (n := 62) (kd := 15) ⟨by decide, rfl⟩ (q2 := 280) (by decide) rfl ?_
            refine x_A k172_63 (fun _ => rfl) ?_
            refine x_iald k172_64 (q := 280) (n := 120) ⟨by decide, rfl⟩ (by decide) (by first | exact x_rbl b_a rfl rfl | exact ⟨by omega, by omega⟩) ?_
            refine x_top (fun z29 e_z29 => ?_)
            have g_z29 : (-1) ≤ s15 280 a.toNat ∧ s15 280 a.toNat ≤ 39 := hG_s15 280 a.toNat
            refine x_goto k172_65 (t := 99) rfl ?_
            exact x_iret k172_99 rfl ⟨hG_s15, f_s15, z29, rfl, (by first | exact x_rbe e_z29 g_z29 rfl rfl | exact x_rb g_z29 rfl rfl | exact ⟨by omega, by omega⟩), (by have q1 := pG1.1; have q0 := pT.1.1; have q3 := pG3.1; have y55 := (pG3.2 a (by omega) (by omega) (by omega)).1.2.2.2; unfold MeS; exact Or.inr (Or.inr (Or.inr ⟨by omega, by omega, by omega, (by rw [show d = 0 by omega]; show z29 = meC s0 b a; rw [e_z29]; exact (xp_z14.me ⟨by omega, by omega⟩).1)⟩)))⟩
        · skip
          refine x_sipush k172_46 (by decide +kernel) ?_
          exact x_iret k172_49 rfl ⟨hG0, f0, (-1003), rfl, ⟨by decide, by decide⟩, (by have q1 := pG1.1; have q0 := pT.1.1; have q3 := pG3.1; have y55 := (pG3.2 a (by omega) (by omega) (by omega)).1.2.2.2; unfold MeS; exact Or.inr (Or.inr (Or.inl ⟨by omega, by omega, by omega, rfl⟩)))⟩
      · rw [e_z9]
        show xe none 172 29 [(0, .ref 256), (1, vi a), (2, vi b), (3, vi d)] [vi 0] s0 0 0 _
        refine x_if_ne k172_29 (t := 36) rfl ⟨by decide, by decide⟩ (fun c30 => by exfalso; omega) (fun c30 => ?_)
        refine x_sipush k172_32 (by decide +kernel) ?_
        exact x_iret k172_35 rfl ⟨hG0, f0, (-1002), rfl, ⟨by decide, by decide⟩, (by have q1 := pG1.1; have q0 := pT.1.1; have q3 := pG3.1; unfold MeS; exact Or.inr (Or.inl ⟨by omega, by omega, rfl⟩))⟩
    · rw [e_z6]
      show xe none 172 17 [(0, .ref 256), (1, vi a), (2, vi b), (3, vi d)] [vi 0] s0 0 0 _
      refine x_if_eq k172_17 (t := 32) rfl ⟨by decide, by decide⟩ (fun c31 => ?_) (fun c31 => by exfalso; omega)
      refine x_sipush k172_32 (by decide +kernel) ?_
      exact x_iret k172_35 rfl ⟨hG0, f0, (-1002), rfl, ⟨by decide, by decide⟩, (by have q1 := pG1.1; have q0 := pT.1.1; have q3 := pG3.1; unfold MeS; exact Or.inr (Or.inl ⟨by omega, by omega, rfl⟩))⟩
  · rw [e_z3]
    show xe none 172 5 [(0, .ref 256), (1, vi a), (2, vi b), (3, vi d)] [vi 0] s0 0 0 _
    refine x_if_ne k172_5 (t := 12) rfl ⟨by decide, by decide⟩ (fun c32 => by exfalso; omega) (fun c32 => ?_)
    refine x_sipush k172_8 (by decide +kernel) ?_
    exact x_iret k172_11 rfl ⟨hG0, f0, (-1001), rfl, ⟨by decide, by decide⟩, (by have q1 := pG1.1; have q0 := pT.1.1; have q3 := pG3.1; unfold MeS; exact Or.inl ⟨by omega, rfl⟩)⟩
