set_option maxHeartbeats 8000000 in
theorem L_E_X11_doubts_256_5 (s0 : xS) (a : Int) (b_a : 0 ≤ a ∧ a ≤ 119) (b : Int) (b_b : (-2147483648) ≤ b ∧ b ≤ 2147483647)  : ∀ (n : Nat) (s : xS) (x1 : Int) (x2 : Int) (x3 : Int) (x4 : Int) (hG : GI s) (f : FL [] s0 s) (b_x1 : 0 ≤ x1 ∧ x1 ≤ 119) (b_x2 : (-2147483648) ≤ x2 ∧ x2 ≤ 2147483647) (b_x3 : 0 ≤ x3 ∧ x3 ≤ 9) (b_x4 : 0 ≤ x4 ∧ x4 ≤ 8) (r_3_4 : x3 ≤ x4 + 0) (w_0 : x1 = a) (w_1 : x2 = b) (w_2 : x3 = dcn (fun h => s0 269 (8 * a + h).toNat) b x4.toNat)  (hm : (8 - x4) < (n : Int)), xe none 156 5 [(0, .ref 256), (1, vi x1), (2, vi x2), (3, vi x3), (4, vi x4)] [] s 0 0 (fun s' v => GI s' ∧ FL [] s0 s' ∧ ∃ z, v = some (vi z) ∧ (0 ≤ z ∧ z ≤ 8) ∧ (z = dcn (fun h => s0 269 (8 * a + h).toNat) b 8)) := by
  intro n
  induction n with
  | zero => intro s x1 x2 x3 x4 hG f b_x1 b_x2 b_x3 b_x4 r_3_4 w_0 w_1 w_2  hm; exfalso; omega
  | succ n ih =>
    intro s x1 x2 x3 x4 hG f b_x1 b_x2 b_x3 b_x4 r_3_4 w_0 w_1 w_2  hm
    refine x_A k156_5 (fun _ => rfl) ?_
    refine x_bipush k156_7 (by decide +kernel) ?_
    refine x_ic_ge k156_9 (t := 48) rfl (by first | exact x_rb b_x4 rfl rfl | exact ⟨by omega, by omega⟩) ⟨by decide, by decide⟩ (fun c101 => ?_) (fun c101 => ?_)
    · skip
      refine x_A k156_48 (fun _ => rfl) ?_
      exact x_iret k156_49 rfl ⟨hG, f, x3, rfl, (by first | exact x_rb b_x3 rfl rfl | exact ⟨by omega, by omega⟩), (by rw [show x4 = 8 by omega] at w_2; exact w_2)⟩
    · skip
      refine x_A k156_12 (fun _ => rfl) ?_
      refine x_A k156_13 (fun _ => rfl) ?_
      refine x_getR k156_14 (f := 16) rfl (q := 256) (n := 62) (kd := 15) ⟨by decide, rfl⟩ (q2 := 269) (by decide) rfl ?_
      refine x_bipush k156_17 (by decide +kernel) ?_
      refine x_A k156_19 (fun _ => rfl) ?_
      refine x_imul k156_20 ?_
      refine x_top (fun z102 e_z102 => ?_)
      refine x_A k156_21 (fun _ => rfl) ?_
      refine x_iadd k156_23 ?_
      refine x_top (fun z103 e_z103 => ?_)
      refine x_iald k156_24 (q := 269) (n := 960) ⟨by decide, rfl⟩ (by decide) (by first | exact x_rbel e_z103 g_z103 rfl rfl | exact x_rbl g_z103 rfl rfl | exact ⟨by omega, by omega⟩) ?_
      refine x_top (fun z104 e_z104 => ?_)
      have g_z104 : (-1) ≤ s 269 z103.toNat ∧ s 269 z103.toNat ≤ 9 := hG 269 z103.toNat
      have dz := dcn_s (fun h => s0 269 (8 * a + h).toNat) b (k := x4) (z := z104) (by omega) (by rw [← f.nil, show 8 * a + x4 = z103 by omega]; exact e_z104.symm)
      refine x_i2l k156_25 (by first | exact x_rbe e_z104 g_z104 rfl rfl | exact x_rb g_z104 rfl rfl | exact ⟨by omega, by omega⟩) ?_
      refine x_lconst k156_26 (z := 0) (by decide +kernel) ?_
      refine x_A k156_27 (fun _ => rfl) ?_
      refine x_i2l k156_28 (by first | exact x_rb b_x2 rfl rfl | exact ⟨by omega, by omega⟩) ?_
      refine x_callS k156_29 (y := 136) (n := 3) (w0 := 1) (w1 := 6) (as := [vj z104, vj 0, vj x2]) (rest := [vi x3]) (by decide +kernel) rfl rfl rfl rfl (xe_mono (C_X11_in s hG z104 ⟨by omega, by omega⟩ 0 ⟨by omega, by omega⟩ x2 ⟨by omega, by omega⟩) ?_)
      rintro s106 v ⟨h_s106, z105, rfl, hz_z105⟩
      rw [h_s106]
      rcases hz_z105 with ⟨c_z105, e_z105⟩ | ⟨c_z105, e_z105⟩
      · rw [e_z105]
        show xe none 156 32 [(0, .ref 256), (1, vi x1), (2, vi x2), (3, vi x3), (4, vi x4)] [vi 1, vi x3] s 0 0 _
        refine x_if_eq k156_32 (t := 39) rfl ⟨by decide, by decide⟩ (fun c107 => by exfalso; omega) (fun c107 => ?_)
        refine x_A k156_35 (fun _ => rfl) ?_
        refine x_goto k156_36 (t := 40) rfl ?_
        refine x_iadd k156_40 ?_
        refine x_top (fun z108 e_z108 => ?_)
        refine x_istore_n k156_41 (ls' := [(3, vi z108), (0, .ref 256), (1, vi x1), (2, vi x2), (4, vi x4)]) (by decide) rfl ?_
        refine x_iinc k156_42 (ls' := [(4, vi (x4 + 1)), (3, vi z108), (0, .ref 256), (1, vi x1), (2, vi x2)]) rfl (by decide) rfl ?_
        refine x_goto k156_45 (t := 5) rfl ?_
        refine x_ls (l := [(0, .ref 256), (1, vi x1), (2, vi x2), (3, vi z108), (4, vi (x4 + 1))]) (show ([0, 1, 2, 3, 4] : List Nat).Nodup from by decide +kernel) ⟨rfl, rfl, rfl, rfl, rfl, trivial⟩ ?_
        exact ih s x1 x2 z108 (x4 + 1) hG f (by first | exact x_rb b_x1 rfl rfl | exact ⟨by omega, by omega⟩) (by first | exact x_rb b_x2 rfl rfl | exact ⟨by omega, by omega⟩) (by first | exact x_rbe e_z108 g_z108 rfl rfl | exact x_rb g_z108 rfl rfl | exact ⟨by omega, by omega⟩) ⟨by omega, by omega⟩ (by omega) (by omega) (by omega) (by omega)  (by omega)
      · rw [e_z105]
        show xe none 156 32 [(0, .ref 256), (1, vi x1), (2, vi x2), (3, vi x3), (4, vi x4)] [vi 0, vi x3] s 0 0 _
        refine x_if_eq k156_32 (t := 39) rfl ⟨by decide, by decide⟩ (fun c109 => ?_) (fun c109 => by exfalso; omega)
        refine x_A k156_39 (fun _ => rfl) ?_
        refine x_iadd k156_40 ?_
        refine x_top (fun z110 e_z110 => ?_)
        refine x_istore_n k156_41 (ls' := [(3, vi z110), (0, .ref 256), (1, vi x1), (2, vi x2), (4, vi x4)]) (by decide) rfl ?_
        refine x_iinc k156_42 (ls' := [(4, vi (x4 + 1)), (3, vi z110), (0, .ref 256), (1, vi x1), (2, vi x2)]) rfl (by decide) rfl ?_
        refine x_goto k156_45 (t := 5) rfl ?_
        refine x_ls (l := [(0, .ref 256), (1, vi x1), (2, vi x2), (3, vi z110), (4, vi (x4 + 1))]) (show ([0, 1, 2, 3, 4] : List Nat).Nodup from by decide +kernel) ⟨rfl, rfl, rfl, rfl, rfl, trivial⟩ ?_
        exact ih s x1 x2 z110 (x4 + 1) hG f (by first | exact x_rb b_x1 rfl rfl | exact ⟨by omega, by omega⟩) (by first | exact x_rb b_x2 rfl rfl | exact ⟨by omega, by omega⟩) (by first | exact x_rbe e_z110 g_z110 rfl rfl | exact x_rb g_z110 rfl rfl | exact ⟨by omega, by omega⟩) ⟨by omega, by omega⟩ (by omega) (by omega) (by omega) (by omega)  (by omega)
set_option maxHeartbeats 8000000 in
theorem E_X11_doubts_256 (s0 : xS) (hG0 : GI s0) (a : Int) (b_a : 0 ≤ a ∧ a ≤ 119) (b : Int) (b_b : (-2147483648) ≤ b ∧ b ≤ 2147483647) : xe none 156 0 (lv_args 0 [.ref 256, vi a, vi b]) [] s0 0 0 (fun s' v => GI s' ∧ FL [] s0 s' ∧ ∃ z, v = some (vi z) ∧ (0 ≤ z ∧ z ≤ 8) ∧ (z = dcn (fun h => s0 269 (8 * a + h).toNat) b 8)) := by
  have f0 : FL [] s0 s0 := FL.rf
  show xe none 156 0 [(0, .ref 256), (1, vi a), (2, vi b)] [] s0 0 0 _
  refine x_A k156_0 (fun _ => rfl) ?_
  refine x_istore_n k156_1 (ls' := [(3, vi 0), (0, .ref 256), (1, vi a), (2, vi b)]) (by decide) rfl ?_
  refine x_A k156_2 (fun _ => rfl) ?_
  refine x_istore k156_3 (ls' := [(4, vi 0), (3, vi 0), (0, .ref 256), (1, vi a), (2, vi b)]) (by decide) rfl ?_
  refine x_ls (l := [(0, .ref 256), (1, vi a), (2, vi b), (3, vi 0), (4, vi 0)]) (show ([0, 1, 2, 3, 4] : List Nat).Nodup from by decide +kernel) ⟨rfl, rfl, rfl, rfl, rfl, trivial⟩ ?_
  exact L_E_X11_doubts_256_5 s0 a b_a b b_b  (((8 - 0) + 1 : Int)).toNat s0 a b 0 0 hG0 f0 (by first | exact x_rb b_a rfl rfl | exact ⟨by omega, by omega⟩) (by first | exact x_rb b_b rfl rfl | exact ⟨by omega, by omega⟩) ⟨by decide, by decide⟩ ⟨by decide, by decide⟩ (by omega) (by omega) (by omega) (show _ = _ from rfl)  (by omega)
set_option maxHeartbeats 8000000 in
theorem E_X10_doubt_0 (s0 : xS) (hG0 : GI s0) (a : Int) (b_a : (-2147483648) ≤ a ∧ a ≤ 2147483647) (b : Int) (b_b : (-2147483648) ≤ b ∧ b ≤ 2147483647) (p_50_6 : 0 ≤ s0 50 6 ∧ s0 50 6 ≤ 120) (p_0_10 : 0 ≤ s0 0 10 ∧ s0 0 10 ≤ 9) : xe none 99 0 (lv_args 0 [.ref 0, vi a, vi b]) [] s0 0 0 (fun s' v => GI s' ∧ FL [1152, 3276, 3277] s0 s' ∧ ∃ z, v = some (vi z) ∧ ((-1004) ≤ z ∧ z ≤ 8) ∧ (DoC s0 s' a b z)) := by
  have f0 : FL [1152, 3276, 3277] s0 s0 := FL.rf
  show xe none 99 0 [(0, .ref 0), (1, vi a), (2, vi b)] [] s0 0 0 _
  obtain ⟨z1, e_z1⟩ : ∃ z, z = s0 50 6 := ⟨_, rfl⟩
  have g_z1 : (0 : Int) ≤ s0 50 6 ∧ s0 50 6 ≤ 120 := hG0 50 6
  obtain ⟨z2, e_z2⟩ : ∃ z, z = s0 0 10 := ⟨_, rfl⟩
  have g_z2 : (0 : Int) ≤ s0 0 10 ∧ s0 0 10 ≤ 9 := hG0 0 10
  refine x_A k99_0 (fun _ => rfl) ?_
  refine x_getR k99_1 (f := 2) rfl (q := 0) (n := 12) (kd := 3) ⟨by decide, rfl⟩ (q2 := 50) (by decide) rfl ?_
  refine x_A k99_4 (fun _ => rfl) ?_
  refine x_callV k99_5 (y := 24) (n := 1) (w0 := 0) (w1 := 1) (as := [vi a]) (rest := []) (by decide +kernel) (q := 50) (nq := 7) (kq := 6) ⟨by decide, rfl⟩ rfl rfl rfl rfl (xe_mono (C_X2_has_50 s0 hG0 a (by first | exact x_rb b_a rfl rfl | exact ⟨by omega, by omega⟩)) ?_)
  rintro s4 v ⟨h_s4, z3, rfl, hz_z3⟩
  rw [h_s4]
  rcases hz_z3 with ⟨c_z3, e_z3⟩ | ⟨c_z3, e_z3⟩
  · rw [e_z3]
    show xe none 99 8 [(0, .ref 0), (1, vi a), (2, vi b)] [vi 1] s0 0 0 _
    refine x_if_ne k99_8 (t := 15) rfl ⟨by decide, by decide⟩ (fun c5 => ?_) (fun c5 => by exfalso; omega)
    refine x_A k99_15 (fun _ => rfl) ?_
    refine x_callS k99_16 (y := 123) (n := 1) (w0 := 0) (w1 := 1) (as := [vi b]) (rest := []) (by decide +kernel) rfl rfl rfl rfl (xe_mono (C_X10_isHand s0 hG0 b (by first | exact x_rb b_b rfl rfl | exact ⟨by omega, by omega⟩)) ?_)
    rintro s7 v ⟨h_s7, z6, rfl, hz_z6⟩
    rw [h_s7]
    rcases hz_z6 with ⟨c_z6, e_z6⟩ | ⟨c_z6, e_z6⟩
    · rw [e_z6]
      show xe none 99 19 [(0, .ref 0), (1, vi a), (2, vi b)] [vi 1] s0 0 0 _
      refine x_if_ne k99_19 (t := 26) rfl ⟨by decide, by decide⟩ (fun c8 => ?_) (fun c8 => by exfalso; omega)
      refine x_A k99_26 (fun _ => rfl) ?_
      refine x_getR k99_27 (f := 2) rfl (q := 0) (n := 12) (kd := 3) ⟨by decide, rfl⟩ (q2 := 50) (by decide) rfl ?_
      refine x_getR k99_30 (f := 2) rfl (q := 50) (n := 7) (kd := 6) ⟨by decide, rfl⟩ (q2 := 53) (by decide) rfl ?_
      refine x_A k99_33 (fun _ => rfl) ?_
      refine x_iald k99_34 (q := 53) (n := 120) ⟨by decide, rfl⟩ (by decide) (by first | exact x_rbl b_a rfl rfl | exact ⟨by omega, by omega⟩) ?_
      refine x_top (fun z9 e_z9 => ?_)
      have g_z9 : (0 : Int) ≤ s0 53 a.toNat ∧ s0 53 a.toNat ≤ 7 := hG0 53 a.toNat
      refine x_A k99_35 (fun _ => rfl) ?_
      refine x_ic_eq k99_36 (t := 54) rfl (by first | exact x_rbe e_z9 g_z9 rfl rfl | exact x_rb g_z9 rfl rfl | exact ⟨by omega, by omega⟩) (by first | exact x_rb b_b rfl rfl | exact ⟨by omega, by omega⟩) (fun c10 => ?_) (fun c10 => ?_)
      · skip
        refine x_sipush k99_54 (by decide +kernel) ?_
        exact x_iret k99_57 rfl ⟨hG0, f0, (-1003), rfl, ⟨by decide, by decide⟩, (by unfold DoC; exact Or.inr (Or.inr (Or.inl ⟨by omega, by omega, by omega, rfl, fun _ _ _ _ => rfl⟩)))⟩
      · skip
        refine x_A k99_39 (fun _ => rfl) ?_
        refine x_getR k99_40 (f := 2) rfl (q := 0) (n := 12) (kd := 3) ⟨by decide, rfl⟩ (q2 := 50) (by decide) rfl ?_
        refine x_getR k99_43 (f := 5) rfl (q := 50) (n := 7) (kd := 6) ⟨by decide, rfl⟩ (q2 := 56) (by decide) rfl ?_
        refine x_A k99_46 (fun _ => rfl) ?_
        refine x_aald k99_47 (q := 56) (t := 23) (n := 120) ⟨by decide, rfl⟩ (by decide) (by decide) ⟨by omega, by omega⟩ ?_
        refine x_A k99_48 (fun _ => rfl) ?_
        refine x_iald k99_49 (q := (56 + 1 + a.toNat)) (n := 8) (xg_57 (by omega) (by omega)) (by decide) (by first | exact x_rbl b_b rfl rfl | exact ⟨by omega, by omega⟩) ?_
        refine x_top (fun z11 e_z11 => ?_)
        have r_z11 := hG0 (56 + 1 + a.toNat) b.toNat
        rw [(gr_57 b.toNat (show 57 ≤ (56 + 1 + a.toNat) by omega) (by omega)).1, (gr_57 b.toNat (show 57 ≤ (56 + 1 + a.toNat) by omega) (by omega)).2.1, ← e_z11] at r_z11
        refine x_A k99_50 (fun _ => rfl) ?_
        refine x_ic_eq k99_51 (t := 58) rfl (by first | exact x_rbe e_z11 g_z11 rfl rfl | exact x_rb g_z11 rfl rfl | exact ⟨by omega, by omega⟩) ⟨by decide, by decide⟩ (fun c12 => ?_) (fun c12 => ?_)
        · skip
          refine x_A k99_58 (fun _ => rfl) ?_
          refine x_getR k99_59 (f := 9) rfl (q := 0) (n := 12) (kd := 3) ⟨by decide, rfl⟩ (q2 := 243) (by decide) rfl ?_
          refine x_callV k99_62 (y := 73) (n := 0) (w0 := 0) (w1 := 0) (as := []) (rest := []) (by decide +kernel) (q := 243) (nq := 13) (kq := 13) ⟨by decide, rfl⟩ rfl rfl rfl rfl (xe_mono (C_X8_forget_243 s0 hG0) ?_)
          rintro s14 v ⟨hG_s14, t_s14, rfl⟩
          have f_s14 : FL [1152, 3276, 3277] s0 s14 := f0.tr t_s14 (by decide +kernel)
          have q15 : s14 50 6 = z1 := (t_s14 50 6 (show 711 ∉ [3276, 3277] from by decide +kernel)).trans e_z1.symm
          have q16 : s14 0 10 = z2 := (t_s14 0 10 (show 11 ∉ [3276, 3277] from by decide +kernel)).trans e_z2.symm
          have q17 : s14 53 a.toNat = z9 := (t_s14 53 a.toNat (show 896 ∉ [3276, 3277] from by decide +kernel)).trans e_z9.symm
          show xe none 99 65 [(0, .ref 0), (1, vi a), (2, vi b)] [] s14 0 0 _
          have FR := rows120 t_s14 (by decide)
          refine x_A k99_65 (fun _ => rfl) ?_
          refine x_getR k99_66 (f := 2) rfl (q := 0) (n := 12) (kd := 3) ⟨by decide, rfl⟩ (q2 := 50) (by decide) rfl ?_
          refine x_getR k99_69 (f := 5) rfl (q := 50) (n := 7) (kd := 6) ⟨by decide, rfl⟩ (q2 := 56) (by decide) rfl ?_
          refine x_A k99_72 (fun _ => rfl) ?_
          refine x_aald k99_73 (q := 56) (t := 23) (n := 120) ⟨by decide, rfl⟩ (by decide) (by decide) ⟨by omega, by omega⟩ ?_
          refine x_A k99_74 (fun _ => rfl) ?_
          refine x_A k99_75 (fun _ => rfl) ?_
          refine x_getI k99_76 (f := 10) rfl (q := 0) (n := 12) (kd := 3) ⟨by decide, rfl⟩ (by decide) rfl ?_
          refine x_rw (q16) ?_
          refine x_iast k99_79 (q := (56 + 1 + a.toNat)) (n := 8) (xg_57 (by omega) (by omega)) (by decide) (by first | exact x_rbl b_b rfl rfl | exact ⟨by omega, by omega⟩) ?_
          refine x_nh (fun s18 e_s18 => ?_)
          have w19 := gr_57 b.toNat (show 57 ≤ (56 + 1 + a.toNat) by omega) (by omega)
          have hG_s18 : GI s18 := by rw [e_s18]; exact hG_s14.up (by rw [w19.1, w19.2.1]; exact (show (-1) ≤ z2 ∧ z2 ≤ 9 from (by first | exact x_rbe e_z2 g_z2 rfl rfl | exact x_rb g_z2 rfl rfl | exact ⟨by omega, by omega⟩)))
          have f_s18 : FL [1152, 3276, 3277] s0 s18 := by rw [e_s18]; exact f_s14.up (by rw [w19.2.2]; decide)
          have q20 : s18 50 6 = z1 := by rw [e_s18, x_up_q (by omega)]; exact q15
          have q21 : s18 0 10 = z2 := by rw [e_s18, x_up_q (by omega)]; exact q16
          have q22 : s18 53 a.toNat = z9 := by rw [e_s18, x_up_q (by first | decide | omega)]; exact q17
          have q23 : s18 (56 + 1 + a.toNat) b.toNat = z2 := by rw [e_s18]; exact x_up_same
          refine x_A k99_80 (fun _ => rfl) ?_
          refine x_getR k99_81 (f := 2) rfl (q := 0) (n := 12) (kd := 3) ⟨by decide, rfl⟩ (q2 := 50) (by decide) rfl ?_
          refine x_A k99_84 (fun _ => rfl) ?_
          refine x_A k99_85 (fun _ => rfl) ?_
          refine x_getI k99_86 (f := 10) rfl (q := 0) (n := 12) (kd := 3) ⟨by decide, rfl⟩ (by decide) rfl ?_
          refine x_rw (q21) ?_
          refine x_callV k99_89 (y := 26) (n := 2) (w0 := 0) (w1 := 2) (as := [vi a, vi z2]) (rest := []) (by decide +kernel) (q := 50) (nq := 7) (kq := 6) ⟨by decide, rfl⟩ rfl rfl rfl rfl (xe_mono (E_X2_doubters_50 s18 hG_s18 a (by first | exact x_rb b_a rfl rfl | exact ⟨by omega, by omega⟩) z2 (by first | exact x_rbe e_z2 g_z2 rfl rfl | exact x_rb g_z2 rfl rfl | exact ⟨by omega, by omega⟩) ⟨by omega, by omega⟩) ?_)
          rintro s25 v ⟨-, t_s25, z24, rfl, g_z24, xp_z24⟩
          rw [t_s25.nil]
          try rw [t_s25.nil] at xp_z24
          show xe none 99 92 [(0, .ref 0), (1, vi a), (2, vi b)] [vi z24] s18 0 0 _
          exact x_iret k99_92 rfl ⟨hG_s18, f_s18, z24, rfl, (by first | exact x_rbe e_z24 g_z24 rfl rfl | exact x_rb g_z24 rfl rfl | exact ⟨by omega, by omega⟩), (by unfold DoC; exact xp_z24.elim (fun ⟨u1, u2⟩ => by exfalso; omega) (fun ⟨u1, u2⟩ => Or.inr (Or.inr (Or.inr ⟨by omega, by omega, by omega, by rw [u2, show z2 = s0 0 10 by omega], fun r j h1 h2 => by rw [e_s18, x_up_def, show z2 = s0 0 10 by omega, FR r j h1 h2]⟩))))⟩
        · skip
          refine x_sipush k99_54 (by decide +kernel) ?_
          exact x_iret k99_57 rfl ⟨hG0, f0, (-1003), rfl, ⟨by decide, by decide⟩, (by unfold DoC; exact Or.inr (Or.inr (Or.inl ⟨by omega, by omega, by omega, rfl, fun _ _ _ _ => rfl⟩)))⟩
    · rw [e_z6]
      show xe none 99 19 [(0, .ref 0), (1, vi a), (2, vi b)] [vi 0] s0 0 0 _
      refine x_if_ne k99_19 (t := 26) rfl ⟨by decide, by decide⟩ (fun c26 => by exfalso; omega) (fun c26 => ?_)
      refine x_sipush k99_22 (by decide +kernel) ?_
      exact x_iret k99_25 rfl ⟨hG0, f0, (-1002), rfl, ⟨by decide, by decide⟩, (by unfold DoC; exact Or.inr (Or.inl ⟨by omega, by omega, rfl, fun _ _ _ _ => rfl⟩))⟩
  · rw [e_z3]
    show xe none 99 8 [(0, .ref 0), (1, vi a), (2, vi b)] [vi 0] s0 0 0 _
    refine x_if_ne k99_8 (t := 15) rfl ⟨by decide, by decide⟩ (fun c27 => by exfalso; omega) (fun c27 => ?_)
    refine x_sipush k99_11 (by decide +kernel) ?_
    exact x_iret k99_14 rfl ⟨hG0, f0, (-1001), rfl, ⟨by decide, by decide⟩, (by unfold DoC; exact Or.inl ⟨by omega, rfl, fun _ _ _ _ => rfl⟩)⟩
set_option maxHeartbeats 8000000 in
theorem E_X11_doubt_256 (s0 : xS) (hG0 : GI s0) (a : Int) (b_a : (-2147483648) ≤ a ∧ a ≤ 2147483647) (b : Int) (b_b : (-2147483648) ≤ b ∧ b ≤ 2147483647) (p_256_10 : 0 ≤ s0 256 10 ∧ s0 256 10 ≤ 120) (p_256_0 : 0 ≤ s0 256 0 ∧ s0 256 0 ≤ 9) : xe none 157 0 (lv_args 0 [.ref 256, vi a, vi b]) [] s0 0 0 (fun s' v => GI s' ∧ FL [4928] s0 s' ∧ ∃ z, v = some (vi z) ∧ ((-1004) ≤ z ∧ z ≤ 8) ∧ (DoR s0 s' a b z)) := by
  have f0 : FL [4928] s0 s0 := FL.rf
  show xe none 157 0 [(0, .ref 256), (1, vi a), (2, vi b)] [] s0 0 0 _
  obtain ⟨z1, e_z1⟩ : ∃ z, z = s0 256 10 := ⟨_, rfl⟩
  have g_z1 : (0 : Int) ≤ s0 256 10 ∧ s0 256 10 ≤ 120 := hG0 256 10
  obtain ⟨z2, e_z2⟩ : ∃ z, z = s0 256 0 := ⟨_, rfl⟩
  have g_z2 : (0 : Int) ≤ s0 256 0 ∧ s0 256 0 ≤ 9 := hG0 256 0
  refine x_A k157_0 (fun _ => rfl) ?_
  refine x_A k157_1 (fun _ => rfl) ?_
  refine x_callV k157_2 (y := 152) (n := 1) (w0 := 0) (w1 := 1) (as := [vi a]) (rest := []) (by decide +kernel) (q := 256) (nq := 62) (kq := 15) ⟨by decide, rfl⟩ rfl rfl rfl rfl (xe_mono (C_X11_isGiving_256 s0 hG0 a (by first | exact x_rb b_a rfl rfl | exact ⟨by omega, by omega⟩)) ?_)
  rintro s4 v ⟨h_s4, z3, rfl, hz_z3⟩
  rw [h_s4]
  rcases hz_z3 with ⟨c_z3, e_z3⟩ | ⟨c_z3, e_z3⟩
  · rw [e_z3]
    show xe none 157 5 [(0, .ref 256), (1, vi a), (2, vi b)] [vi 1] s0 0 0 _
    refine x_if_ne k157_5 (t := 12) rfl ⟨by decide, by decide⟩ (fun c5 => ?_) (fun c5 => by exfalso; omega)
    refine x_A k157_12 (fun _ => rfl) ?_
    refine x_callS k157_13 (y := 153) (n := 1) (w0 := 0) (w1 := 1) (as := [vi b]) (rest := []) (by decide +kernel) rfl rfl rfl rfl (xe_mono (C_X11_isHand s0 hG0 b (by first | exact x_rb b_b rfl rfl | exact ⟨by omega, by omega⟩)) ?_)
    rintro s7 v ⟨h_s7, z6, rfl, hz_z6⟩
    rw [h_s7]
    rcases hz_z6 with ⟨c_z6, e_z6⟩ | ⟨c_z6, e_z6⟩
    · rw [e_z6]
      show xe none 157 16 [(0, .ref 256), (1, vi a), (2, vi b)] [vi 1] s0 0 0 _
      refine x_if_ne k157_16 (t := 23) rfl ⟨by decide, by decide⟩ (fun c8 => ?_) (fun c8 => by exfalso; omega)
      refine x_A k157_23 (fun _ => rfl) ?_
      refine x_A k157_24 (fun _ => rfl) ?_
      refine x_getR k157_25 (f := 13) rfl (q := 256) (n := 62) (kd := 15) ⟨by decide, rfl⟩ (q2 := 266) (by decide) rfl ?_
      refine x_A k157_28 (fun _ => rfl) ?_
      refine x_iald k157_29 (q := 266) (n := 120) ⟨by decide, rfl⟩ (by decide) (by first | exact x_rbl b_a rfl rfl | exact ⟨by omega, by omega⟩) ?_
      refine x_top (fun z9 e_z9 => ?_)
      have g_z9 : (0 : Int) ≤ s0 266 a.toNat ∧ s0 266 a.toNat ≤ 7 := hG0 266 a.toNat
      refine x_ic_eq k157_30 (t := 47) rfl (by first | exact x_rb b_b rfl rfl | exact ⟨by omega, by omega⟩) (by first | exact x_rbe e_z9 g_z9 rfl rfl | exact x_rb g_z9 rfl rfl | exact ⟨by omega, by omega⟩) (fun c10 => ?_) (fun c10 => ?_)
      · skip
        have FUL : (b = s0 266 a.toNat ∨ 0 ≤ s0 269 (8 * a + b).toNat) := (by omega)
        refine x_sipush k157_47 (by decide +kernel) ?_
        exact x_iret k157_50 rfl ⟨hG0, f0, (-1003), rfl, ⟨by decide, by decide⟩, (by unfold DoR; exact Or.inr (Or.inr (Or.inl ⟨by omega, by omega, FUL, rfl, rfl⟩)))⟩
      · skip
        refine x_A k157_33 (fun _ => rfl) ?_
        refine x_getR k157_34 (f := 16) rfl (q := 256) (n := 62) (kd := 15) ⟨by decide, rfl⟩ (q2 := 269) (by decide) rfl ?_
        refine x_bipush k157_37 (by decide +kernel) ?_
        refine x_A k157_39 (fun _ => rfl) ?_
        refine x_imul k157_40 ?_
        refine x_top (fun z11 e_z11 => ?_)
        refine x_A k157_41 (fun _ => rfl) ?_
        refine x_iadd k157_42 ?_
        refine x_top (fun z12 e_z12 => ?_)
        refine x_iald k157_43 (q := 269) (n := 960) ⟨by decide, rfl⟩ (by decide) (by first | exact x_rbel e_z12 g_z12 rfl rfl | exact x_rbl g_z12 rfl rfl | exact ⟨by omega, by omega⟩) ?_
        refine x_top (fun z13 e_z13 => ?_)
        have g_z13 : (-1) ≤ s0 269 z12.toNat ∧ s0 269 z12.toNat ≤ 9 := hG0 269 z12.toNat
        refine x_if_lt k157_44 (t := 51) rfl (by first | exact x_rbe e_z13 g_z13 rfl rfl | exact x_rb g_z13 rfl rfl | exact ⟨by omega, by omega⟩) (fun c14 => ?_) (fun c14 => ?_)
        · skip
          have NF : (b ≠ s0 266 a.toNat ∧ s0 269 (8 * a + b).toNat < 0) := (by rw [← show z12 = 8 * a + b by omega, e_z13.symm]; omega)
          refine x_A k157_51 (fun _ => rfl) ?_
          refine x_getR k157_52 (f := 16) rfl (q := 256) (n := 62) (kd := 15) ⟨by decide, rfl⟩ (q2 := 269) (by decide) rfl ?_
          refine x_bipush k157_55 (by decide +kernel) ?_
          refine x_A k157_57 (fun _ => rfl) ?_
          refine x_imul k157_58 ?_
          refine x_top (fun z15 e_z15 => ?_)
          refine x_A k157_59 (fun _ => rfl) ?_
          refine x_iadd k157_60 ?_
          refine x_top (fun z16 e_z16 => ?_)
          refine x_A k157_61 (fun _ => rfl) ?_
          refine x_getI k157_62 (f := 0) rfl (q := 256) (n := 62) (kd := 15) ⟨by decide, rfl⟩ (by decide) rfl ?_
          refine x_rw (e_z2.symm) ?_
          refine x_iast k157_65 (q := 269) (n := 960) ⟨by decide, rfl⟩ (by decide) (by first | exact x_rbel e_z16 g_z16 rfl rfl | exact x_rbl g_z16 rfl rfl | exact ⟨by omega, by omega⟩) ?_
          refine x_nh (fun s17 e_s17 => ?_)
          have hG_s17 : GI s17 := by rw [e_s17]; exact hG0.up (show (-1) ≤ z2 ∧ z2 ≤ 9 from (by first | exact x_rbe e_z2 g_z2 rfl rfl | exact x_rb g_z2 rfl rfl | exact ⟨by omega, by omega⟩))
          have f_s17 : FL [4928] s0 s17 := by rw [e_s17]; exact f0.up (show 4928 ∈ [4928] from by decide +kernel)
          have q18 : s17 256 10 = z1 := by rw [e_s17, x_up_q (by decide)]; exact e_z1.symm
          have q19 : s17 256 0 = z2 := by rw [e_s17, x_up_q (by decide)]; exact e_z2.symm
          have q20 : s17 266 a.toNat = z9 := by rw [e_s17, x_up_q (by first | decide | omega)]; exact e_z9.symm
          have q21 : s17 269 z16.toNat = z2 := by rw [e_s17]; exact x_up_same
          refine x_A k157_66 (fun _ => rfl) ?_
          refine x_A k157_67 (fun _ => rfl) ?_
          refine x_A k157_68 (fun _ => rfl) ?_
          refine x_getI k157_69 (f := 0) rfl (q := 256) (n := 62) (kd := 15) ⟨by decide, rfl⟩ (by decide) rfl ?_
          refine x_rw (q19) ?_
          refine x_callV k157_72 (y := 156) (n := 2) (w0 := 0) (w1 := 2) (as := [vi a, vi z2]) (rest := []) (by decide +kernel) (q := 256) (nq := 62) (kq := 15) ⟨by decide, rfl⟩ rfl rfl rfl rfl (xe_mono (E_X11_doubts_256 s17 hG_s17 a (by first | exact x_rb b_a rfl rfl | exact ⟨by omega, by omega⟩) z2 (by first | exact x_rbe e_z2 g_z2 rfl rfl | exact x_rb g_z2 rfl rfl | exact ⟨by omega, by omega⟩)) ?_)
          rintro s23 v ⟨-, t_s23, z22, rfl, g_z22, xp_z22⟩
          rw [t_s23.nil]
          try rw [t_s23.nil] at xp_z22
          show xe none 157 75 [(0, .ref 256), (1, vi a), (2, vi b)] [vi z22] s17 0 0 _
          exact x_iret k157_75 rfl ⟨hG_s17, f_s17, z22, rfl, (by first | exact x_rbe e_z22 g_z22 rfl rfl | exact x_rb g_z22 rfl rfl | exact ⟨by omega, by omega⟩), (by unfold DoR; exact Or.inr (Or.inr (Or.inr ⟨by omega, by omega, NF, by rw [xp_z22, show z2 = s0 256 0 by omega], fun j => by rw [e_s17, x_up_at, show z16 = 8 * a + b by omega, show z2 = s0 256 0 by omega]⟩)))⟩
        · skip
          have FUL : (b = s0 266 a.toNat ∨ 0 ≤ s0 269 (8 * a + b).toNat) := (by rw [← show z12 = 8 * a + b by omega, e_z13.symm]; omega)
          refine x_sipush k157_47 (by decide +kernel) ?_
          exact x_iret k157_50 rfl ⟨hG0, f0, (-1003), rfl, ⟨by decide, by decide⟩, (by unfold DoR; exact Or.inr (Or.inr (Or.inl ⟨by omega, by omega, FUL, rfl, rfl⟩)))⟩
    · rw [e_z6]
      show xe none 157 16 [(0, .ref 256), (1, vi a), (2, vi b)] [vi 0] s0 0 0 _
      refine x_if_ne k157_16 (t := 23) rfl ⟨by decide, by decide⟩ (fun c24 => by exfalso; omega) (fun c24 => ?_)
      refine x_sipush k157_19 (by decide +kernel) ?_
      exact x_iret k157_22 rfl ⟨hG0, f0, (-1002), rfl, ⟨by decide, by decide⟩, (by unfold DoR; exact Or.inr (Or.inl ⟨by omega, by omega, rfl, rfl⟩))⟩
  · rw [e_z3]
    show xe none 157 5 [(0, .ref 256), (1, vi a), (2, vi b)] [vi 0] s0 0 0 _
    refine x_if_ne k157_5 (t := 12) rfl ⟨by decide, by decide⟩ (fun c25 => by exfalso; omega) (fun c25 => ?_)
    refine x_sipush k157_8 (by decide +kernel) ?_
    exact x_iret k157_11 rfl ⟨hG0, f0, (-1001), rfl, ⟨by decide, by decide⟩, (by unfold DoR; exact Or.inl ⟨by omega, rfl, rfl⟩)⟩
set_option maxHeartbeats 8000000 in
theorem E_X7_parentIn_1 (s0 : xS) (hG0 : GI s0) (a : Int) (b_a : (-2147483648) ≤ a ∧ a ≤ 2147483647) (b : Int) (b_b : (-2147483648) ≤ b ∧ b ≤ 2147483647) : xe none 62 0 (lv_args 0 [.ref 1, vi a, vi b]) [] s0 0 0 (fun s' v => GI s' ∧ FL [] s0 s' ∧ ∃ z, v = some (vi z) ∧ ((-1) ≤ z ∧ z ≤ 39) ∧ (z = parC s0 b a)) := by
  have f0 : FL [] s0 s0 := FL.rf
  show xe none 62 0 [(0, .ref 1), (1, vi a), (2, vi b)] [] s0 0 0 _
  refine x_A k62_0 (fun _ => rfl) ?_
  refine x_A k62_1 (fun _ => rfl) ?_
  obtain ⟨z1, e_z1⟩ : ∃ z, z = s0 1 4 := ⟨_, rfl⟩
  have g_z1 : (1 : Int) ≤ s0 1 4 ∧ s0 1 4 ≤ 40 := hG0 1 4
  refine x_callV k62_2 (y := 59) (n := 1) (w0 := 0) (w1 := 1) (as := [vi a]) (rest := []) (by decide +kernel) (q := 1) (nq := 5) (kq := 4) ⟨by decide, rfl⟩ rfl rfl rfl rfl (xe_mono (C_X7_has_1 s0 hG0 a (by first | exact x_rb b_a rfl rfl | exact ⟨by omega, by omega⟩)) ?_)
  rintro s3 v ⟨h_s3, z2, rfl, hz_z2⟩
  rw [h_s3]
  rcases hz_z2 with ⟨c_z2, e_z2⟩ | ⟨c_z2, e_z2⟩
  · rw [e_z2]
    show xe none 62 5 [(0, .ref 1), (1, vi a), (2, vi b)] [vi 1] s0 0 0 _
    refine x_if_eq k62_5 (t := 29) rfl ⟨by decide, by decide⟩ (fun c4 => by exfalso; omega) (fun c4 => ?_)
    refine x_A k62_8 (fun _ => rfl) ?_
    refine x_A k62_9 (fun _ => rfl) ?_
    refine x_bipush k62_10 (by decide +kernel) ?_
    refine x_callS k62_12 (y := 121) (n := 3) (w0 := 0) (w1 := 3) (as := [vi b, vi 0, vi 9]) (rest := []) (by decide +kernel) rfl rfl rfl rfl (xe_mono (C_X10_isWithin s0 hG0 b (by first | exact x_rb b_b rfl rfl | exact ⟨by omega, by omega⟩) 0 ⟨by decide, by decide⟩ 9 ⟨by decide, by decide⟩) ?_)
    rintro s6 v ⟨h_s6, z5, rfl, hz_z5⟩
    rw [h_s6]
    rcases hz_z5 with ⟨c_z5, e_z5⟩ | ⟨c_z5, e_z5⟩
    · rw [e_z5]
      show xe none 62 15 [(0, .ref 1), (1, vi a), (2, vi b)] [vi 1] s0 0 0 _
      refine x_if_eq k62_15 (t := 29) rfl ⟨by decide, by decide⟩ (fun c7 => by exfalso; omega) (fun c7 => ?_)
      refine x_A k62_18 (fun _ => rfl) ?_
      refine x_getR k62_19 (f := 3) rfl (q := 1) (n := 5) (kd := 4) ⟨by decide, rfl⟩ (q2 := 5) (by decide) rfl ?_
      refine x_A k62_22 (fun _ => rfl) ?_
      refine x_aald k62_23 (q := 5) (t := 23) (n := 40) ⟨by decide, rfl⟩ (by decide) (by decide) ⟨by omega, by omega⟩ ?_
      refine x_A k62_24 (fun _ => rfl) ?_
      refine x_iald k62_25 (q := (5 + 1 + a.toNat)) (n := 10) (xg_6 (by omega) (by omega)) (by decide) (by first | exact x_rbl b_b rfl rfl | exact ⟨by omega, by omega⟩) ?_
      refine x_top (fun z8 e_z8 => ?_)
      have r_z8 := hG0 (5 + 1 + a.toNat) b.toNat
      rw [(gr_6 b.toNat (show 6 ≤ (5 + 1 + a.toNat) by omega) (by omega)).1, (gr_6 b.toNat (show 6 ≤ (5 + 1 + a.toNat) by omega) (by omega)).2.1, ← e_z8] at r_z8
      refine x_goto k62_26 (t := 30) rfl ?_
      exact x_iret k62_30 rfl ⟨hG0, f0, z8, rfl, (by first | exact x_rbe e_z8 g_z8 rfl rfl | exact x_rb g_z8 rfl rfl | exact ⟨by omega, by omega⟩), (by unfold parC; rw [if_pos (by omega)]; exact e_z8)⟩
    · rw [e_z5]
      show xe none 62 15 [(0, .ref 1), (1, vi a), (2, vi b)] [vi 0] s0 0 0 _
      refine x_if_eq k62_15 (t := 29) rfl ⟨by decide, by decide⟩ (fun c9 => ?_) (fun c9 => by exfalso; omega)
      refine x_A k62_29 (fun _ => rfl) ?_
      exact x_iret k62_30 rfl ⟨hG0, f0, (-1), rfl, ⟨by decide, by decide⟩, (by unfold parC; rw [if_neg (by omega)])⟩
  · rw [e_z2]
    show xe none 62 5 [(0, .ref 1), (1, vi a), (2, vi b)] [vi 0] s0 0 0 _
    refine x_if_eq k62_5 (t := 29) rfl ⟨by decide, by decide⟩ (fun c10 => ?_) (fun c10 => by exfalso; omega)
    refine x_A k62_29 (fun _ => rfl) ?_
    exact x_iret k62_30 rfl ⟨hG0, f0, (-1), rfl, ⟨by decide, by decide⟩, (by unfold parC; rw [if_neg (by omega)])⟩
set_option maxHeartbeats 8000000 in
theorem L_E_X7_pathUp_1_8 (s0 : xS) (a : Int) (b_a : (-2147483648) ≤ a ∧ a ≤ 2147483647) (b : Int) (b_b : (-2147483648) ≤ b ∧ b ≤ 2147483647)  : ∀ (n : Nat) (s : xS) (x1 : Int) (x2 : Int) (x3 : Int) (x5 : Int) (x6 : Int) (hG : GI s) (f : FL [] s0 s) (b_x1 : (-2147483648) ≤ x1 ∧ x1 ≤ 2147483647) (b_x2 : (-2147483648) ≤ x2 ∧ x2 ≤ 2147483647) (b_x3 : in64 x3) (b_x5 : (-2147483648) ≤ x5 ∧ x5 ≤ 2147483647) (b_x6 : 0 ≤ x6 ∧ x6 ≤ 40) (w_0 : x1 = a) (w_1 : x2 = b) (w_2 : ∀ k : Nat, k < 64 → ((bt x3 k = true ∨ onp s0 b (40 - x6).toNat x5 k) ↔ onp s0 b 40 a k))  (hm : (40 - x6) < (n : Int)), xe none 65 8 [(0, .ref 1), (1, vi x1), (2, vi x2), (3, vj x3), (5, vi x5), (6, vi x6)] [] s 0 0 (fun s' v => GI s' ∧ FL [] s0 s' ∧ ∃ z, v = some (vj z) ∧ in64 z ∧ (∀ k : Nat, k < 64 → (bt z k = true ↔ onp s0 b 40 a k))) := by
  intro n
  induction n with
  | zero => intro s x1 x2 x3 x5 x6 hG f b_x1 b_x2 b_x3 b_x5 b_x6 w_0 w_1 w_2  hm; exfalso; omega
  | succ n ih =>
    intro s x1 x2 x3 x5 x6 hG f b_x1 b_x2 b_x3 b_x5 b_x6 w_0 w_1 w_2  hm
    refine x_A k65_8 (fun _ => rfl) ?_
    refine x_bipush k65_10 (by decide +kernel) ?_
    refine x_ic_ge k65_12 (t := 46) rfl (by first | exact x_rb b_x6 rfl rfl | exact ⟨by omega, by omega⟩) ⟨by decide, by decide⟩ (fun c141 => ?_) (fun c141 => ?_)
    · skip
      refine x_A k65_46 (fun _ => rfl) ?_
      exact x_lret k65_47 rfl ⟨hG, f, x3, rfl, b_x3, (by rw [show (40 - x6).toNat = 0 by omega] at w_2; exact fun k hk => ⟨fun q => (w_2 k hk).mp (Or.inl q), fun q => ((w_2 k hk).mpr q).elim id (fun w => w.elim)⟩)⟩
    · skip
      refine x_A k65_15 (fun _ => rfl) ?_
      refine x_A k65_16 (fun _ => rfl) ?_
      obtain ⟨z142, e_z142⟩ : ∃ z, z = s 1 4 := ⟨_, rfl⟩
      have g_z142 : (1 : Int) ≤ s 1 4 ∧ s 1 4 ≤ 40 := hG 1 4
      refine x_callV k65_18 (y := 59) (n := 1) (w0 := 0) (w1 := 1) (as := [vi x5]) (rest := []) (by decide +kernel) (q := 1) (nq := 5) (kq := 4) ⟨by decide, rfl⟩ rfl rfl rfl rfl (xe_mono (C_X7_has_1 s hG x5 (by first | exact x_rb b_x5 rfl rfl | exact ⟨by omega, by omega⟩)) ?_)
      rintro s144 v ⟨h_s144, z143, rfl, hz_z143⟩
      rw [h_s144]
      rcases hz_z143 with ⟨c_z143, e_z143⟩ | ⟨c_z143, e_z143⟩
      · rw [e_z143]
        show xe none 65 21 [(0, .ref 1), (1, vi x1), (2, vi x2), (3, vj x3), (5, vi x5), (6, vi x6)] [vi 1] s 0 0 _
        refine x_if_eq k65_21 (t := 46) rfl ⟨by decide, by decide⟩ (fun c145 => by exfalso; omega) (fun c145 => ?_)
        refine x_A k65_24 (fun _ => rfl) ?_
        refine x_lconst k65_25 (z := 1) (by decide +kernel) ?_
        refine x_A k65_26 (fun _ => rfl) ?_
        refine x_lshl1 k65_28 ⟨by omega, by omega⟩ (fun z146 b_z146 g_z146 => ?_)
        refine x_lor_b k65_29 (fun z147 b_z147 g_z147 => ?_)
        refine x_lstore_n k65_30 (ls' := [(3, vj z147), (0, .ref 1), (1, vi x1), (2, vi x2), (5, vi x5), (6, vi x6)]) (by decide) rfl ?_
        refine x_A k65_31 (fun _ => rfl) ?_
        refine x_A k65_32 (fun _ => rfl) ?_
        refine x_A k65_34 (fun _ => rfl) ?_
        refine x_callV k65_35 (y := 62) (n := 2) (w0 := 0) (w1 := 2) (as := [vi x5, vi x2]) (rest := []) (by decide +kernel) (q := 1) (nq := 5) (kq := 4) ⟨by decide, rfl⟩ rfl rfl rfl rfl (xe_mono (E_X7_parentIn_1 s hG x5 (by first | exact x_rb b_x5 rfl rfl | exact ⟨by omega, by omega⟩) x2 (by first | exact x_rb b_x2 rfl rfl | exact ⟨by omega, by omega⟩)) ?_)
        rintro s149 v ⟨-, t_s149, z148, rfl, g_z148, xp_z148⟩
        rw [t_s149.nil]
        try rw [t_s149.nil] at xp_z148
        show xe none 65 38 [(3, vj z147), (0, .ref 1), (1, vi x1), (2, vi x2), (5, vi x5), (6, vi x6)] [vi z148] s 0 0 _
        refine x_istore k65_38 (ls' := [(5, vi z148), (3, vj z147), (0, .ref 1), (1, vi x1), (2, vi x2), (6, vi x6)]) (by decide) rfl ?_
        refine x_iinc k65_40 (ls' := [(6, vi (x6 + 1)), (5, vi z148), (3, vj z147), (0, .ref 1), (1, vi x1), (2, vi x2)]) rfl (by decide) rfl ?_
        refine x_goto k65_43 (t := 8) rfl ?_
        refine x_ls (l := [(0, .ref 1), (1, vi x1), (2, vi x2), (3, vj z147), (5, vi z148), (6, vi (x6 + 1))]) (show ([0, 1, 2, 3, 5, 6] : List Nat).Nodup from by decide +kernel) ⟨rfl, rfl, rfl, rfl, rfl, rfl, trivial⟩ ?_
        exact ih s x1 x2 z147 z148 (x6 + 1) hG f (by first | exact x_rb b_x1 rfl rfl | exact ⟨by omega, by omega⟩) (by first | exact x_rb b_x2 rfl rfl | exact ⟨by omega, by omega⟩) b_z147 (by first | exact x_rbe e_z148 g_z148 rfl rfl | exact x_rb g_z148 rfl rfl | exact ⟨by omega, by omega⟩) ⟨by omega, by omega⟩ (by omega) (by omega) (by rw [show (40 - x6).toNat = (40 - (x6 + 1)).toNat + 1 by omega] at w_2; rw [xp_z148, f.nil, show x2 = b by omega]; exact onp_step (by have e4 := f 1 4 (by decide); omega) w_2 g_z146 g_z147)  (by omega)
      · rw [e_z143]
        show xe none 65 21 [(0, .ref 1), (1, vi x1), (2, vi x2), (3, vj x3), (5, vi x5), (6, vi x6)] [vi 0] s 0 0 _
        refine x_if_eq k65_21 (t := 46) rfl ⟨by decide, by decide⟩ (fun c150 => ?_) (fun c150 => by exfalso; omega)
        refine x_A k65_46 (fun _ => rfl) ?_
        exact x_lret k65_47 rfl ⟨hG, f, x3, rfl, b_x3, (fun k hk => ⟨fun q => (w_2 k hk).mp (Or.inl q), fun q => ((w_2 k hk).mpr q).elim id (fun w => absurd w (onp_out (by have e4 := f 1 4 (by decide); omega) _ _))⟩)⟩
set_option maxHeartbeats 8000000 in
theorem E_X7_pathUp_1 (s0 : xS) (hG0 : GI s0) (a : Int) (b_a : (-2147483648) ≤ a ∧ a ≤ 2147483647) (b : Int) (b_b : (-2147483648) ≤ b ∧ b ≤ 2147483647) : xe none 65 0 (lv_args 0 [.ref 1, vi a, vi b]) [] s0 0 0 (fun s' v => GI s' ∧ FL [] s0 s' ∧ ∃ z, v = some (vj z) ∧ in64 z ∧ (∀ k : Nat, k < 64 → (bt z k = true ↔ onp s0 b 40 a k))) := by
  have f0 : FL [] s0 s0 := FL.rf
  show xe none 65 0 [(0, .ref 1), (1, vi a), (2, vi b)] [] s0 0 0 _
  refine x_lconst k65_0 (z := 0) (by decide +kernel) ?_
  refine x_lstore_n k65_1 (ls' := [(3, vj 0), (0, .ref 1), (1, vi a), (2, vi b)]) (by decide) rfl ?_
  refine x_A k65_2 (fun _ => rfl) ?_
  refine x_istore k65_3 (ls' := [(5, vi a), (3, vj 0), (0, .ref 1), (1, vi a), (2, vi b)]) (by decide) rfl ?_
  refine x_A k65_5 (fun _ => rfl) ?_
  refine x_istore k65_6 (ls' := [(6, vi 0), (5, vi a), (3, vj 0), (0, .ref 1), (1, vi a), (2, vi b)]) (by decide) rfl ?_
  refine x_ls (l := [(0, .ref 1), (1, vi a), (2, vi b), (3, vj 0), (5, vi a), (6, vi 0)]) (show ([0, 1, 2, 3, 5, 6] : List Nat).Nodup from by decide +kernel) ⟨rfl, rfl, rfl, rfl, rfl, rfl, trivial⟩ ?_
  exact L_E_X7_pathUp_1_8 s0 a b_a b b_b  (((40 - 0) + 1 : Int)).toNat s0 a b 0 a 0 hG0 f0 (by first | exact x_rb b_a rfl rfl | exact ⟨by omega, by omega⟩) (by first | exact x_rb b_b rfl rfl | exact ⟨by omega, by omega⟩) ⟨by omega, by omega⟩ (by first | exact x_rb b_a rfl rfl | exact ⟨by omega, by omega⟩) ⟨by decide, by decide⟩ (by omega) (by omega) (fun k hk => by rw [show ((40 : Int) - 0).toNat = 40 from rfl]; exact ⟨fun q => q.elim (fun w => by rw [bt_0] at w; cases w) id, Or.inr⟩)  (by omega)
set_option maxHeartbeats 8000000 in
theorem E_X7_isBelow_1 (s0 : xS) (hG0 : GI s0) (a : Int) (b_a : (-2147483648) ≤ a ∧ a ≤ 2147483647) (b : Int) (b_b : (-2147483648) ≤ b ∧ b ≤ 2147483647) (d : Int) (b_d : (-2147483648) ≤ d ∧ d ≤ 2147483647) : xe none 66 0 (lv_args 0 [.ref 1, vi a, vi b, vi d]) [] s0 0 0 (fun s' v => GI s' ∧ FL [] s0 s' ∧ ∃ z, v = some (vi z) ∧ (0 ≤ z ∧ z ≤ 1) ∧ ((z = 1 ∧ (0 ≤ b ∧ b < s0 1 4) ∧ onp s0 d 40 a b) ∨ (z = 0 ∧ ¬ ((0 ≤ b ∧ b < s0 1 4) ∧ onp s0 d 40 a b)))) := by
  have f0 : FL [] s0 s0 := FL.rf
  show xe none 66 0 [(0, .ref 1), (1, vi a), (2, vi b), (3, vi d)] [] s0 0 0 _
  refine x_A k66_0 (fun _ => rfl) ?_
  refine x_A k66_1 (fun _ => rfl) ?_
  obtain ⟨z1, e_z1⟩ : ∃ z, z = s0 1 4 := ⟨_, rfl⟩
  have g_z1 : (1 : Int) ≤ s0 1 4 ∧ s0 1 4 ≤ 40 := hG0 1 4
  refine x_callV k66_2 (y := 59) (n := 1) (w0 := 0) (w1 := 1) (as := [vi b]) (rest := []) (by decide +kernel) (q := 1) (nq := 5) (kq := 4) ⟨by decide, rfl⟩ rfl rfl rfl rfl (xe_mono (C_X7_has_1 s0 hG0 b (by first | exact x_rb b_b rfl rfl | exact ⟨by omega, by omega⟩)) ?_)
  rintro s3 v ⟨h_s3, z2, rfl, hz_z2⟩
  rw [h_s3]
  rcases hz_z2 with ⟨c_z2, e_z2⟩ | ⟨c_z2, e_z2⟩
  · rw [e_z2]
    show xe none 66 5 [(0, .ref 1), (1, vi a), (2, vi b), (3, vi d)] [vi 1] s0 0 0 _
    refine x_if_eq k66_5 (t := 27) rfl ⟨by decide, by decide⟩ (fun c4 => by exfalso; omega) (fun c4 => ?_)
    refine x_A k66_8 (fun _ => rfl) ?_
    refine x_A k66_9 (fun _ => rfl) ?_
    refine x_A k66_10 (fun _ => rfl) ?_
    refine x_callV k66_11 (y := 65) (n := 2) (w0 := 0) (w1 := 2) (as := [vi a, vi d]) (rest := []) (by decide +kernel) (q := 1) (nq := 5) (kq := 4) ⟨by decide, rfl⟩ rfl rfl rfl rfl (xe_mono (E_X7_pathUp_1 s0 hG0 a (by first | exact x_rb b_a rfl rfl | exact ⟨by omega, by omega⟩) d (by first | exact x_rb b_d rfl rfl | exact ⟨by omega, by omega⟩)) ?_)
    rintro s6 v ⟨-, t_s6, z5, rfl, b_z5, xp_z5⟩
    rw [t_s6.nil]
    try rw [t_s6.nil] at xp_z5
    show xe none 66 14 [(0, .ref 1), (1, vi a), (2, vi b), (3, vi d)] [vj z5] s0 0 0 _
    refine x_A k66_14 (fun _ => rfl) ?_
    refine x_lushr_b k66_15 ⟨by omega, by omega⟩ (fun z7 b_z7 g_z7 => ?_)
    refine x_lconst k66_16 (z := 1) (by decide +kernel) ?_
    refine x_land_b k66_17 (fun z8 b_z8 g_z8 => ?_)
    have bl := bt_low b_z8 g_z8
    have bu := g_z7 0
    have px := xp_z5 b.toNat (by omega)
    rw [show ((b.toNat : Nat) : Int) = b by omega] at px
    refine x_lconst k66_18 (z := 0) (by decide +kernel) ?_
    refine x_lc_eq k66_19 k66_20 (t := 27) rfl b_z8 ⟨by omega, by omega⟩ (fun c9 => ?_) (fun c9 => ?_)
    · skip
      refine x_A k66_27 (fun _ => rfl) ?_
      exact x_zret k66_28 rfl ⟨by omega, by omega⟩ ⟨hG0, f0, 0, rfl, ⟨by decide, by decide⟩, Or.inr ⟨rfl, fun w => bl.elim (fun q => by have h9 := px.mpr w.2; rw [show bt z5 b.toNat = false from bu.symm.trans q.2] at h9; cases h9) (fun q => absurd (show z8 = 0 by omega) q.1)⟩⟩
    · skip
      refine x_A k66_23 (fun _ => rfl) ?_
      refine x_goto k66_24 (t := 28) rfl ?_
      exact x_zret k66_28 rfl ⟨by omega, by omega⟩ ⟨hG0, f0, 1, rfl, ⟨by decide, by decide⟩, Or.inl ⟨rfl, by omega, bl.elim (fun q => absurd q.1 (by omega)) (fun q => px.mp (bu.symm.trans q.2))⟩⟩
  · rw [e_z2]
    show xe none 66 5 [(0, .ref 1), (1, vi a), (2, vi b), (3, vi d)] [vi 0] s0 0 0 _
    refine x_if_eq k66_5 (t := 27) rfl ⟨by decide, by decide⟩ (fun c10 => ?_) (fun c10 => by exfalso; omega)
    refine x_A k66_27 (fun _ => rfl) ?_
    exact x_zret k66_28 rfl ⟨by omega, by omega⟩ ⟨hG0, f0, 0, rfl, ⟨by decide, by decide⟩, Or.inr ⟨rfl, fun w => absurd w.1 (by omega)⟩⟩
set_option maxHeartbeats 8000000 in
theorem L_E_X7_countBelow_1_5 (s0 : xS) (a : Int) (b_a : (-2147483648) ≤ a ∧ a ≤ 2147483647) (b : Int) (b_b : (-2147483648) ≤ b ∧ b ≤ 2147483647)  : ∀ (n : Nat) (s : xS) (x1 : Int) (x2 : Int) (x3 : Int) (x4 : Int) (x1000 : Int) (hG : GI s) (f : FL [] s0 s) (b_x1 : (-2147483648) ≤ x1 ∧ x1 ≤ 2147483647) (b_x2 : (-2147483648) ≤ x2 ∧ x2 ≤ 2147483647) (b_x3 : 0 ≤ x3 ∧ x3 ≤ 60) (b_x4 : 0 ≤ x4 ∧ x4 ≤ 40) (b_x1000 : 1 ≤ x1000 ∧ x1000 ≤ 40) (r_3_4 : x3 ≤ x4 + 0) (r_4_1000 : x4 ≤ x1000 + 0) (w_0 : x1 = a) (w_1 : x2 = b) (w_2 : x1000 = s0 1 4) (w_3 : x4 ≤ x1000) (w_4 : x3 = ctp (fun k => (0 ≤ a ∧ a < s0 1 4) ∧ onp s0 b 40 (k : Int) a) x4.toNat) (e_x1000 : x1000 = s 1 4)  (hm : (40 - x4) < (n : Int)), xe none 67 5 [(0, .ref 1), (1, vi x1), (2, vi x2), (3, vi x3), (4, vi x4)] [] s 0 0 (fun s' v => GI s' ∧ FL [] s0 s' ∧ ∃ z, v = some (vi z) ∧ (0 ≤ z ∧ z ≤ 40) ∧ (z = ctp (fun k => (0 ≤ a ∧ a < s0 1 4) ∧ onp s0 b 40 (k : Int) a) (s0 1 4).toNat)) := by
  intro n
  induction n with
  | zero => intro s x1 x2 x3 x4 x1000 hG f b_x1 b_x2 b_x3 b_x4 b_x1000 r_3_4 r_4_1000 w_0 w_1 w_2 w_3 w_4 e_x1000  hm; exfalso; omega
  | succ n ih =>
    intro s x1 x2 x3 x4 x1000 hG f b_x1 b_x2 b_x3 b_x4 b_x1000 r_3_4 r_4_1000 w_0 w_1 w_2 w_3 w_4 e_x1000  hm
    refine x_A k67_5 (fun _ => rfl) ?_
    refine x_A k67_7 (fun _ => rfl) ?_
    refine x_getI k67_8 (f := 4) rfl (q := 1) (n := 5) (kd := 4) ⟨by decide, rfl⟩ (by decide) rfl ?_
    refine x_rw (e_x1000.symm) ?_
    refine x_ic_ge k67_11 (t := 34) rfl (by first | exact x_rb b_x4 rfl rfl | exact ⟨by omega, by omega⟩) (by first | exact x_rb b_x1000 rfl rfl | exact ⟨by omega, by omega⟩) (fun c75 => ?_) (fun c75 => ?_)
    · skip
      refine x_A k67_34 (fun _ => rfl) ?_
      exact x_iret k67_35 rfl ⟨hG, f, x3, rfl, (by first | exact x_rb b_x3 rfl rfl | exact ⟨by omega, by omega⟩), (by rw [show (s0 1 4).toNat = x4.toNat by omega]; exact w_4)⟩
    · skip
      refine x_A k67_14 (fun _ => rfl) ?_
      refine x_A k67_15 (fun _ => rfl) ?_
      refine x_A k67_17 (fun _ => rfl) ?_
      refine x_A k67_18 (fun _ => rfl) ?_
      refine x_callV k67_19 (y := 66) (n := 3) (w0 := 0) (w1 := 3) (as := [vi x4, vi x1, vi x2]) (rest := []) (by decide +kernel) (q := 1) (nq := 5) (kq := 4) ⟨by decide, rfl⟩ rfl rfl rfl rfl (xe_mono (E_X7_isBelow_1 s hG x4 (by first | exact x_rb b_x4 rfl rfl | exact ⟨by omega, by omega⟩) x1 (by first | exact x_rb b_x1 rfl rfl | exact ⟨by omega, by omega⟩) x2 (by first | exact x_rb b_x2 rfl rfl | exact ⟨by omega, by omega⟩)) ?_)
      rintro s77 v ⟨-, t_s77, z76, rfl, g_z76, xp_z76⟩
      rw [t_s77.nil]
      try rw [t_s77.nil] at xp_z76
      show xe none 67 22 [(0, .ref 1), (1, vi x1), (2, vi x2), (3, vi x3), (4, vi x4)] [vi z76] s 0 0 _
      have cs := ctp_s (fun k => (0 ≤ a ∧ a < s0 1 4) ∧ onp s0 b 40 (k : Int) a) (k := x4) (by omega)
      have ck : (z76 = 1 → ctp (fun k => (0 ≤ a ∧ a < s0 1 4) ∧ onp s0 b 40 (k : Int) a) (x4 + 1).toNat = ctp (fun k => (0 ≤ a ∧ a < s0 1 4) ∧ onp s0 b 40 (k : Int) a) x4.toNat + 1) ∧ (z76 = 0 → ctp (fun k => (0 ≤ a ∧ a < s0 1 4) ∧ onp s0 b 40 (k : Int) a) (x4 + 1).toNat = ctp (fun k => (0 ≤ a ∧ a < s0 1 4) ∧ onp s0 b 40 (k : Int) a) x4.toNat) := by
        have e4 : ((x4.toNat : Nat) : Int) = x4 := by omega
        have e1 : x1 = a := by omega
        have e2 : x2 = b := by omega
        have xq := xp_z76
        rw [f.nil, e1, e2] at xq
        rw [e4] at cs
        exact ⟨fun hz => cs.1 (xq.elim (fun q => q.2) (fun q => by exfalso; omega)), fun hz => cs.2 (xq.elim (fun q => by exfalso; omega) (fun q => q.2))⟩
      refine x_if_eq k67_22 (t := 28) rfl (by first | exact x_rbe e_z76 g_z76 rfl rfl | exact x_rb g_z76 rfl rfl | exact ⟨by omega, by omega⟩) (fun c78 => ?_) (fun c78 => ?_)
      · skip
        refine x_iinc k67_28 (ls' := [(4, vi (x4 + 1)), (0, .ref 1), (1, vi x1), (2, vi x2), (3, vi x3)]) rfl (by decide) rfl ?_
        refine x_goto k67_31 (t := 5) rfl ?_
        refine x_ls (l := [(0, .ref 1), (1, vi x1), (2, vi x2), (3, vi x3), (4, vi (x4 + 1))]) (show ([0, 1, 2, 3, 4] : List Nat).Nodup from by decide +kernel) ⟨rfl, rfl, rfl, rfl, rfl, trivial⟩ ?_
        exact ih s x1 x2 x3 (x4 + 1) x1000 hG f (by first | exact x_rb b_x1 rfl rfl | exact ⟨by omega, by omega⟩) (by first | exact x_rb b_x2 rfl rfl | exact ⟨by omega, by omega⟩) (by first | exact x_rb b_x3 rfl rfl | exact ⟨by omega, by omega⟩) ⟨by omega, by omega⟩ (by first | exact x_rb b_x1000 rfl rfl | exact ⟨by omega, by omega⟩) (by omega) (by omega) (by omega) (by omega) (by omega) (by omega) (by omega) (e_x1000.symm).symm  (by omega)
      · skip
        refine x_iinc k67_25 (ls' := [(3, vi (x3 + 1)), (0, .ref 1), (1, vi x1), (2, vi x2), (4, vi x4)]) rfl (by decide) rfl ?_
        refine x_iinc k67_28 (ls' := [(4, vi (x4 + 1)), (3, vi (x3 + 1)), (0, .ref 1), (1, vi x1), (2, vi x2)]) rfl (by decide) rfl ?_
        refine x_goto k67_31 (t := 5) rfl ?_
        refine x_ls (l := [(0, .ref 1), (1, vi x1), (2, vi x2), (3, vi (x3 + 1)), (4, vi (x4 + 1))]) (show ([0, 1, 2, 3, 4] : List Nat).Nodup from by decide +kernel) ⟨rfl, rfl, rfl, rfl, rfl, trivial⟩ ?_
        exact ih s x1 x2 (x3 + 1) (x4 + 1) x1000 hG f (by first | exact x_rb b_x1 rfl rfl | exact ⟨by omega, by omega⟩) (by first | exact x_rb b_x2 rfl rfl | exact ⟨by omega, by omega⟩) ⟨by omega, by omega⟩ ⟨by omega, by omega⟩ (by first | exact x_rb b_x1000 rfl rfl | exact ⟨by omega, by omega⟩) (by omega) (by omega) (by omega) (by omega) (by omega) (by omega) (by omega) (e_x1000.symm).symm  (by omega)
set_option maxHeartbeats 8000000 in
theorem E_X7_countBelow_1 (s0 : xS) (hG0 : GI s0) (a : Int) (b_a : (-2147483648) ≤ a ∧ a ≤ 2147483647) (b : Int) (b_b : (-2147483648) ≤ b ∧ b ≤ 2147483647) : xe none 67 0 (lv_args 0 [.ref 1, vi a, vi b]) [] s0 0 0 (fun s' v => GI s' ∧ FL [] s0 s' ∧ ∃ z, v = some (vi z) ∧ (0 ≤ z ∧ z ≤ 40) ∧ (z = ctp (fun k => (0 ≤ a ∧ a < s0 1 4) ∧ onp s0 b 40 (k : Int) a) (s0 1 4).toNat)) := by
  have f0 : FL [] s0 s0 := FL.rf
  show xe none 67 0 [(0, .ref 1), (1, vi a), (2, vi b)] [] s0 0 0 _
  refine x_A k67_0 (fun _ => rfl) ?_
  refine x_istore_n k67_1 (ls' := [(3, vi 0), (0, .ref 1), (1, vi a), (2, vi b)]) (by decide) rfl ?_
  refine x_A k67_2 (fun _ => rfl) ?_
  refine x_istore k67_3 (ls' := [(4, vi 0), (3, vi 0), (0, .ref 1), (1, vi a), (2, vi b)]) (by decide) rfl ?_
  obtain ⟨z79, e_z79⟩ : ∃ z, z = s0 1 4 := ⟨_, rfl⟩
  have g_z79 : (1 : Int) ≤ s0 1 4 ∧ s0 1 4 ≤ 40 := hG0 1 4
  refine x_ls (l := [(0, .ref 1), (1, vi a), (2, vi b), (3, vi 0), (4, vi 0)]) (show ([0, 1, 2, 3, 4] : List Nat).Nodup from by decide +kernel) ⟨rfl, rfl, rfl, rfl, rfl, trivial⟩ ?_
  exact L_E_X7_countBelow_1_5 s0 a b_a b b_b  (((40 - 0) + 1 : Int)).toNat s0 a b 0 0 z79 hG0 f0 (by first | exact x_rb b_a rfl rfl | exact ⟨by omega, by omega⟩) (by first | exact x_rb b_b rfl rfl | exact ⟨by omega, by omega⟩) ⟨by decide, by decide⟩ ⟨by decide, by decide⟩ (by first | exact x_rbe e_z79 g_z79 rfl rfl | exact x_rb g_z79 rfl rfl | exact ⟨by omega, by omega⟩) (by omega) (by omega) (by omega) (by omega) (by omega) (by omega) (show _ = _ from rfl) (e_z79.symm).symm  (by omega)
set_option maxHeartbeats 8000000 in
theorem L_E_X7_setParent_1_16 (s0 : xS) (a : Int) (b_a : (-2147483648) ≤ a ∧ a ≤ 2147483647) (b : Int) (b_b : (-1) ≤ b ∧ b ≤ 39) (d : Int) (b_d : 0 ≤ d ∧ d ≤ 9)  : ∀ (n : Nat) (s : xS) (x1 : Int) (x2 : Int) (x3 : Int) (x4 : Int) (hG : GI s) (f : FL [384] s0 s) (b_x1 : 0 ≤ x1 ∧ x1 ≤ 39) (b_x2 : (-1) ≤ x2 ∧ x2 ≤ 39) (b_x3 : 0 ≤ x3 ∧ x3 ≤ 9) (b_x4 : 0 ≤ x4 ∧ x4 ≤ 10) (w_0 : x1 = a) (w_1 : x2 = b) (w_2 : d ≤ x4) (w_3 : 0 ≤ a ∧ a < s0 1 4) (w_4 : ∀ r j : Nat, 6 ≤ r → r ≤ 45 → s r j = if r = 5 + 1 + a.toNat ∧ d ≤ (j : Int) ∧ (j : Int) < x4 then b else s0 r j)  (hm : (10 - x4) < (n : Int)), xe none 61 16 [(0, .ref 1), (1, vi x1), (2, vi x2), (3, vi x3), (4, vi x4)] [] s 0 0 (fun s' v => GI s' ∧ FL [384] s0 s' ∧ v = none ∧ ((¬ (0 ≤ a ∧ a < s0 1 4) ∧ ∀ r j : Nat, 6 ≤ r → r ≤ 45 → s' r j = s0 r j) ∨ ((0 ≤ a ∧ a < s0 1 4) ∧ ∀ r j : Nat, 6 ≤ r → r ≤ 45 → s' r j = if r = 5 + 1 + a.toNat ∧ d ≤ (j : Int) ∧ (j : Int) < 10 then b else s0 r j))) := by
  intro n
  induction n with
  | zero => intro s x1 x2 x3 x4 hG f b_x1 b_x2 b_x3 b_x4 w_0 w_1 w_2 w_3 w_4  hm; exfalso; omega
  | succ n ih =>
    intro s x1 x2 x3 x4 hG f b_x1 b_x2 b_x3 b_x4 w_0 w_1 w_2 w_3 w_4  hm
    refine x_A k61_16 (fun _ => rfl) ?_
    refine x_bipush k61_18 (by decide +kernel) ?_
    refine x_ic_ge k61_20 (t := 39) rfl (by first | exact x_rb b_x4 rfl rfl | exact ⟨by omega, by omega⟩) ⟨by decide, by decide⟩ (fun c27 => ?_) (fun c27 => ?_)
    · skip
      exact x_vret k61_39 rfl ⟨hG, f, rfl, Or.inr ⟨by omega, by rw [show x4 = 10 by omega] at w_4; exact w_4⟩⟩
    · skip
      refine x_A k61_23 (fun _ => rfl) ?_
      refine x_getR k61_24 (f := 3) rfl (q := 1) (n := 5) (kd := 4) ⟨by decide, rfl⟩ (q2 := 5) (by decide) rfl ?_
      refine x_A k61_27 (fun _ => rfl) ?_
      refine x_aald k61_28 (q := 5) (t := 23) (n := 40) ⟨by decide, rfl⟩ (by decide) (by decide) ⟨by omega, by omega⟩ ?_
      refine x_A k61_29 (fun _ => rfl) ?_
      refine x_A k61_31 (fun _ => rfl) ?_
      refine x_iast k61_32 (q := (5 + 1 + x1.toNat)) (n := 10) (xg_6 (by omega) (by omega)) (by decide) (by first | exact x_rbl b_x4 rfl rfl | exact ⟨by omega, by omega⟩) ?_
      refine x_nh (fun s28 e_s28 => ?_)
      have w29 := gr_6 x4.toNat (show 6 ≤ (5 + 1 + x1.toNat) by omega) (by omega)
      have hG_s28 : GI s28 := by rw [e_s28]; exact hG.up (by rw [w29.1, w29.2.1]; exact (show (-1) ≤ x2 ∧ x2 ≤ 39 from (by first | exact x_rb b_x2 rfl rfl | exact ⟨by omega, by omega⟩)))
      have f_s28 : FL [384] s0 s28 := by rw [e_s28]; exact f.up (by rw [w29.2.2]; decide)
      have q30 : s28 (5 + 1 + x1.toNat) x4.toNat = x2 := by rw [e_s28]; exact x_up_same
      refine x_iinc k61_33 (ls' := [(4, vi (x4 + 1)), (0, .ref 1), (1, vi x1), (2, vi x2), (3, vi x3)]) rfl (by decide) rfl ?_
      refine x_goto k61_36 (t := 16) rfl ?_
      refine x_ls (l := [(0, .ref 1), (1, vi x1), (2, vi x2), (3, vi x3), (4, vi (x4 + 1))]) (show ([0, 1, 2, 3, 4] : List Nat).Nodup from by decide +kernel) ⟨rfl, rfl, rfl, rfl, rfl, trivial⟩ ?_
      exact ih s28 x1 x2 x3 (x4 + 1) hG_s28 f_s28 (by first | exact x_rb b_x1 rfl rfl | exact ⟨by omega, by omega⟩) (by first | exact x_rb b_x2 rfl rfl | exact ⟨by omega, by omega⟩) (by first | exact x_rb b_x3 rfl rfl | exact ⟨by omega, by omega⟩) ⟨by omega, by omega⟩ (by omega) (by omega) (by omega) (by omega) (by rw [e_s28, show x1 = a by omega, show x2 = b by omega]; exact sp_up w_4 (by omega) (by omega))  (by omega)
