theorem E_X7_isEnded_1 (s0 : xS) (hG0 : GI s0) (a : Int) (b_a : (-2147483648) ≤ a ∧ a ≤ 2147483647) (b : Int) (b_b : (-2147483648) ≤ b ∧ b ≤ 2147483647) : xe none 63 0 (lv_args 0 [.ref 1, vi a, vi b]) [] s0 0 0 (fun s' v => s' = s0 ∧ ∃ z, v = some (vi z) ∧ (((a ≥ 0 ∧ a < s0 1 4) ∧ z = 1 ∧ (s0 3 a.toNat ≠ -1 ∧ s0 3 a.toNat ≤ b)) ∨ (z = 0 ∧ ¬ (0 ≤ a ∧ a < s0 1 4 ∧ (s0 3 a.toNat ≠ -1 ∧ s0 3 a.toNat ≤ b))))) := by
  have f0 : FL [] s0 s0 := FL.rf
  show xe none 63 0 [(0, .ref 1), (1, vi a), (2, vi b)] [] s0 0 0 _
  refine x_A k63_0 (fun _ => rfl) ?_
  refine x_A k63_1 (fun _ => rfl) ?_
  obtain ⟨z1, e_z1⟩ : ∃ z, z = s0 1 4 := ⟨_, rfl⟩
  have g_z1 : (1 : Int) ≤ s0 1 4 ∧ s0 1 4 ≤ 40 := hG0 1 4
  refine x_callV k63_2 (y := 59) (n := 1) (w0 := 0) (w1 := 1) (as := [vi a]) (rest := []) (by decide +kernel) (q := 1) (nq := 5) (kq := 4) ⟨by decide, rfl⟩ rfl rfl rfl rfl (xe_mono (C_X7_has_1 s0 hG0 a (by first | exact x_rb b_a rfl rfl | exact ⟨by omega, by omega⟩)) ?_)
  rintro s3 v ⟨h_s3, z2, rfl, hz_z2⟩
  rw [h_s3]
  rcases hz_z2 with ⟨c_z2, e_z2⟩ | ⟨c_z2, e_z2⟩
  · rw [e_z2]
    show xe none 63 5 [(0, .ref 1), (1, vi a), (2, vi b)] [vi 1] s0 0 0 _
    refine x_if_eq k63_5 (t := 32) rfl ⟨by decide, by decide⟩ (fun c4 => by exfalso; omega) (fun c4 => ?_)
    refine x_A k63_8 (fun _ => rfl) ?_
    refine x_getR k63_9 (f := 1) rfl (q := 1) (n := 5) (kd := 4) ⟨by decide, rfl⟩ (q2 := 3) (by decide) rfl ?_
    refine x_A k63_12 (fun _ => rfl) ?_
    refine x_iald k63_13 (q := 3) (n := 40) ⟨by decide, rfl⟩ (by decide) (by first | exact x_rbl b_a rfl rfl | exact ⟨by omega, by omega⟩) ?_
    refine x_top (fun z5 e_z5 => ?_)
    have g_z5 : (-1) ≤ s0 3 a.toNat ∧ s0 3 a.toNat ≤ 9 := hG0 3 a.toNat
    refine x_A k63_14 (fun _ => rfl) ?_
    refine x_ic_eq k63_15 (t := 32) rfl (by first | exact x_rbe e_z5 g_z5 rfl rfl | exact x_rb g_z5 rfl rfl | exact ⟨by omega, by omega⟩) ⟨by decide, by decide⟩ (fun c6 => ?_) (fun c6 => ?_)
    · skip
      refine x_A k63_32 (fun _ => rfl) ?_
      exact x_zret k63_33 rfl ⟨by omega, by omega⟩ ⟨rfl, 0, rfl, by omega⟩
    · skip
      refine x_A k63_18 (fun _ => rfl) ?_
      refine x_getR k63_19 (f := 1) rfl (q := 1) (n := 5) (kd := 4) ⟨by decide, rfl⟩ (q2 := 3) (by decide) rfl ?_
      refine x_A k63_22 (fun _ => rfl) ?_
      refine x_iald k63_23 (q := 3) (n := 40) ⟨by decide, rfl⟩ (by decide) (by first | exact x_rbl b_a rfl rfl | exact ⟨by omega, by omega⟩) ?_
      refine x_rw (e_z5.symm) ?_
      refine x_A k63_24 (fun _ => rfl) ?_
      refine x_ic_gt k63_25 (t := 32) rfl (by first | exact x_rbe e_z5 g_z5 rfl rfl | exact x_rb g_z5 rfl rfl | exact ⟨by omega, by omega⟩) (by first | exact x_rb b_b rfl rfl | exact ⟨by omega, by omega⟩) (fun c7 => ?_) (fun c7 => ?_)
      · skip
        refine x_A k63_32 (fun _ => rfl) ?_
        exact x_zret k63_33 rfl ⟨by omega, by omega⟩ ⟨rfl, 0, rfl, by omega⟩
      · skip
        refine x_A k63_28 (fun _ => rfl) ?_
        refine x_goto k63_29 (t := 33) rfl ?_
        exact x_zret k63_33 rfl ⟨by omega, by omega⟩ ⟨rfl, 1, rfl, by omega⟩
  · rw [e_z2]
    show xe none 63 5 [(0, .ref 1), (1, vi a), (2, vi b)] [vi 0] s0 0 0 _
    refine x_if_eq k63_5 (t := 32) rfl ⟨by decide, by decide⟩ (fun c8 => ?_) (fun c8 => by exfalso; omega)
    refine x_A k63_32 (fun _ => rfl) ?_
    exact x_zret k63_33 rfl ⟨by omega, by omega⟩ ⟨rfl, 0, rfl, by omega⟩
theorem E_X7_isThere_1 (s0 : xS) (hG0 : GI s0) (a : Int) (b_a : (-2147483648) ≤ a ∧ a ≤ 2147483647) (b : Int) (b_b : (-2147483648) ≤ b ∧ b ≤ 2147483647) : xe none 64 0 (lv_args 0 [.ref 1, vi a, vi b]) [] s0 0 0 (fun s' v => s' = s0 ∧ ∃ z, v = some (vi z) ∧ (((a ≥ 0 ∧ a < s0 1 4) ∧ z = 1 ∧ (s0 2 a.toNat ≤ b ∧ ¬ (s0 3 a.toNat ≠ -1 ∧ s0 3 a.toNat ≤ b))) ∨ (z = 0 ∧ ¬ (0 ≤ a ∧ a < s0 1 4 ∧ (s0 2 a.toNat ≤ b ∧ ¬ (s0 3 a.toNat ≠ -1 ∧ s0 3 a.toNat ≤ b)))))) := by
  have f0 : FL [] s0 s0 := FL.rf
  show xe none 64 0 [(0, .ref 1), (1, vi a), (2, vi b)] [] s0 0 0 _
  refine x_A k64_0 (fun _ => rfl) ?_
  refine x_A k64_1 (fun _ => rfl) ?_
  obtain ⟨z1, e_z1⟩ : ∃ z, z = s0 1 4 := ⟨_, rfl⟩
  have g_z1 : (1 : Int) ≤ s0 1 4 ∧ s0 1 4 ≤ 40 := hG0 1 4
  refine x_callV k64_2 (y := 59) (n := 1) (w0 := 0) (w1 := 1) (as := [vi a]) (rest := []) (by decide +kernel) (q := 1) (nq := 5) (kq := 4) ⟨by decide, rfl⟩ rfl rfl rfl rfl (xe_mono (C_X7_has_1 s0 hG0 a (by first | exact x_rb b_a rfl rfl | exact ⟨by omega, by omega⟩)) ?_)
  rintro s3 v ⟨h_s3, z2, rfl, hz_z2⟩
  rw [h_s3]
  rcases hz_z2 with ⟨c_z2, e_z2⟩ | ⟨c_z2, e_z2⟩
  · rw [e_z2]
    show xe none 64 5 [(0, .ref 1), (1, vi a), (2, vi b)] [vi 1] s0 0 0 _
    refine x_if_eq k64_5 (t := 31) rfl ⟨by decide, by decide⟩ (fun c4 => by exfalso; omega) (fun c4 => ?_)
    refine x_A k64_8 (fun _ => rfl) ?_
    refine x_getR k64_9 (f := 0) rfl (q := 1) (n := 5) (kd := 4) ⟨by decide, rfl⟩ (q2 := 2) (by decide) rfl ?_
    refine x_A k64_12 (fun _ => rfl) ?_
    refine x_iald k64_13 (q := 2) (n := 40) ⟨by decide, rfl⟩ (by decide) (by first | exact x_rbl b_a rfl rfl | exact ⟨by omega, by omega⟩) ?_
    refine x_top (fun z5 e_z5 => ?_)
    have g_z5 : (0 : Int) ≤ s0 2 a.toNat ∧ s0 2 a.toNat ≤ 9 := hG0 2 a.toNat
    refine x_A k64_14 (fun _ => rfl) ?_
    refine x_ic_gt k64_15 (t := 31) rfl (by first | exact x_rbe e_z5 g_z5 rfl rfl | exact x_rb g_z5 rfl rfl | exact ⟨by omega, by omega⟩) (by first | exact x_rb b_b rfl rfl | exact ⟨by omega, by omega⟩) (fun c6 => ?_) (fun c6 => ?_)
    · skip
      refine x_A k64_31 (fun _ => rfl) ?_
      exact x_zret k64_32 rfl ⟨by omega, by omega⟩ ⟨rfl, 0, rfl, by omega⟩
    · skip
      refine x_A k64_18 (fun _ => rfl) ?_
      refine x_A k64_19 (fun _ => rfl) ?_
      refine x_A k64_20 (fun _ => rfl) ?_
      refine x_callV k64_21 (y := 63) (n := 2) (w0 := 0) (w1 := 2) (as := [vi a, vi b]) (rest := []) (by decide +kernel) (q := 1) (nq := 5) (kq := 4) ⟨by decide, rfl⟩ rfl rfl rfl rfl (xe_mono (E_X7_isEnded_1 s0 hG0 a (by first | exact x_rb b_a rfl rfl | exact ⟨by omega, by omega⟩) b (by first | exact x_rb b_b rfl rfl | exact ⟨by omega, by omega⟩)) ?_)
      rintro s8 v ⟨h_s8, z7, rfl, hz_z7⟩
      rw [h_s8]
      rcases hz_z7 with ⟨c_z7, e_z7, m_z7⟩ | ⟨e_z7, m_z7⟩
      · rw [e_z7]
        show xe none 64 24 [(0, .ref 1), (1, vi a), (2, vi b)] [vi 1] s0 0 0 _
        refine x_if_ne k64_24 (t := 31) rfl ⟨by decide, by decide⟩ (fun c9 => ?_) (fun c9 => by exfalso; omega)
        refine x_A k64_31 (fun _ => rfl) ?_
        exact x_zret k64_32 rfl ⟨by omega, by omega⟩ ⟨rfl, 0, rfl, by omega⟩
      · rw [e_z7]
        show xe none 64 24 [(0, .ref 1), (1, vi a), (2, vi b)] [vi 0] s0 0 0 _
        refine x_if_ne k64_24 (t := 31) rfl ⟨by decide, by decide⟩ (fun c10 => by exfalso; omega) (fun c10 => ?_)
        refine x_A k64_27 (fun _ => rfl) ?_
        refine x_goto k64_28 (t := 32) rfl ?_
        exact x_zret k64_32 rfl ⟨by omega, by omega⟩ ⟨rfl, 1, rfl, by omega⟩
  · rw [e_z2]
    show xe none 64 5 [(0, .ref 1), (1, vi a), (2, vi b)] [vi 0] s0 0 0 _
    refine x_if_eq k64_5 (t := 31) rfl ⟨by decide, by decide⟩ (fun c11 => ?_) (fun c11 => by exfalso; omega)
    refine x_A k64_31 (fun _ => rfl) ?_
    exact x_zret k64_32 rfl ⟨by omega, by omega⟩ ⟨rfl, 0, rfl, by omega⟩
theorem E_X7_add_1 (s0 : xS) (hG0 : GI s0) (a : Int) (b_a : (-1) ≤ a ∧ a ≤ 39) (b : Int) (b_b : 0 ≤ b ∧ b ≤ 9) : xe none 60 0 (lv_args 0 [.ref 1, vi a, vi b]) [] s0 0 0 (fun s' v => GI s' ∧ FL [69, 128, 384] s0 s' ∧ ∃ z, v = some (vi z) ∧ ((-1004) ≤ z ∧ z ≤ 39) ∧ ((40 ≤ s0 1 4 ∧ z = -1004 ∧ s' 1 4 = s0 1 4 ∧ s' 2 = s0 2) ∨ (s0 1 4 < 40 ∧ z = s0 1 4 ∧ s' 1 4 = s0 1 4 + 1 ∧ ∀ j, s' 2 j = if j = (s0 1 4).toNat then b else s0 2 j))) := by
  have f0 : FL [69, 128, 384] s0 s0 := FL.rf
  show xe none 60 0 [(0, .ref 1), (1, vi a), (2, vi b)] [] s0 0 0 _
  refine x_A k60_0 (fun _ => rfl) ?_
  refine x_getI k60_1 (f := 4) rfl (q := 1) (n := 5) (kd := 4) ⟨by decide, rfl⟩ (by decide) rfl ?_
  refine x_top (fun z1 e_z1 => ?_)
  have g_z1 : (1 : Int) ≤ s0 1 4 ∧ s0 1 4 ≤ 40 := hG0 1 4
  refine x_istore_n k60_4 (ls' := [(3, vi z1), (0, .ref 1), (1, vi a), (2, vi b)]) (by decide) rfl ?_
  refine x_A k60_5 (fun _ => rfl) ?_
  refine x_bipush k60_6 (by decide +kernel) ?_
  refine x_ic_lt k60_8 (t := 15) rfl (by first | exact x_rbe e_z1 g_z1 rfl rfl | exact x_rb g_z1 rfl rfl | exact ⟨by omega, by omega⟩) ⟨by decide, by decide⟩ (fun c2 => ?_) (fun c2 => ?_)
  · skip
    refine x_A k60_15 (fun _ => rfl) ?_
    refine x_getR k60_16 (f := 0) rfl (q := 1) (n := 5) (kd := 4) ⟨by decide, rfl⟩ (q2 := 2) (by decide) rfl ?_
    refine x_A k60_19 (fun _ => rfl) ?_
    refine x_A k60_20 (fun _ => rfl) ?_
    refine x_iast k60_21 (q := 2) (n := 40) ⟨by decide, rfl⟩ (by decide) (by first | exact x_rbel e_z1 g_z1 rfl rfl | exact x_rbl g_z1 rfl rfl | exact ⟨by omega, by omega⟩) ?_
    refine x_nh (fun s3 e_s3 => ?_)
    have hG_s3 : GI s3 := by rw [e_s3]; exact hG0.up (show 0 ≤ b ∧ b ≤ 9 from (by first | exact x_rb b_b rfl rfl | exact ⟨by omega, by omega⟩))
    have f_s3 : FL [69, 128, 384] s0 s3 := by rw [e_s3]; exact f0.up (show 128 ∈ [69, 128, 384] from by decide +kernel)
    have q4 : s3 1 4 = z1 := by rw [e_s3, x_up_q (by decide)]; exact e_z1.symm
    have q5 : s3 2 z1.toNat = b := by rw [e_s3]; exact x_up_same
    refine x_A k60_22 (fun _ => rfl) ?_
    refine x_A k60_23 (fun _ => rfl) ?_
    refine x_getI k60_24 (f := 4) rfl (q := 1) (n := 5) (kd := 4) ⟨by decide, rfl⟩ (by decide) rfl ?_
    refine x_rw (q4) ?_
    refine x_A k60_27 (fun _ => rfl) ?_
    refine x_iadd k60_28 ?_
    refine x_top (fun z6 e_z6 => ?_)
    refine x_putI k60_29 (f := 4) rfl (q := 1) (n := 5) (kd := 4) ⟨by decide, rfl⟩ rfl rfl rfl ?_
    refine x_nh (fun s7 e_s7 => ?_)
    have hG_s7 : GI s7 := by rw [e_s7]; exact hG_s3.up (show 1 ≤ z6 ∧ z6 ≤ 40 from (by first | exact x_rbe e_z6 g_z6 rfl rfl | exact x_rb g_z6 rfl rfl | exact ⟨by omega, by omega⟩))
    have f_s7 : FL [69, 128, 384] s0 s7 := by rw [e_s7]; exact f_s3.up (show 69 ∈ [69, 128, 384] from by decide +kernel)
    have q8 : s7 1 4 = z6 := by rw [e_s7]; exact x_up_same
    have q9 : s7 2 z1.toNat = b := by rw [e_s7, x_up_q (by first | decide | omega)]; exact q5
    refine x_A k60_32 (fun _ => rfl) ?_
    refine x_A k60_33 (fun _ => rfl) ?_
    refine x_A k60_34 (fun _ => rfl) ?_
    refine x_A k60_35 (fun _ => rfl) ?_
    refine x_callV k60_36 (y := 61) (n := 3) (w0 := 0) (w1 := 3) (as := [vi z1, vi a, vi b]) (rest := []) (by decide +kernel) (q := 1) (nq := 5) (kq := 4) ⟨by decide, rfl⟩ rfl rfl rfl rfl (xe_mono (C_X7_setParent_1 s7 hG_s7 z1 (by first | exact x_rbe e_z1 g_z1 rfl rfl | exact x_rb g_z1 rfl rfl | exact ⟨by omega, by omega⟩) a (by first | exact x_rb b_a rfl rfl | exact ⟨by omega, by omega⟩) b (by first | exact x_rb b_b rfl rfl | exact ⟨by omega, by omega⟩)) ?_)
    rintro s11 v ⟨hG_s11, t_s11, rfl⟩
    have f_s11 : FL [69, 128, 384] s0 s11 := f_s7.tr t_s11 (by decide +kernel)
    have q12 : s11 1 4 = z6 := (t_s11 1 4 (show 69 ∉ [384] from by decide +kernel)).trans q8
    have q13 : s11 2 z1.toNat = b := (t_s11 2 z1.toNat (show 128 ∉ [384] from by decide +kernel)).trans q9
    show xe none 60 39 [(3, vi z1), (0, .ref 1), (1, vi a), (2, vi b)] [] s11 0 0 _
    refine x_A k60_39 (fun _ => rfl) ?_
    exact x_iret k60_40 rfl ⟨hG_s11, f_s11, z1, rfl, (by first | exact x_rbe e_z1 g_z1 rfl rfl | exact x_rb g_z1 rfl rfl | exact ⟨by omega, by omega⟩), Or.inr ⟨by omega, by omega, by omega, fun j => by rw [t_s11 2 j (show 128 ∉ _ from by decide), e_s7, x_up_q (by decide), e_s3, x_up_at, show z1 = s0 1 4 by omega]⟩⟩
  · skip
    refine x_sipush k60_11 (by decide +kernel) ?_
    exact x_iret k60_14 rfl ⟨hG0, f0, (-1004), rfl, ⟨by decide, by decide⟩, Or.inl ⟨by omega, rfl, rfl, rfl⟩⟩
theorem E_X10_mark_0 (s0 : xS) (hG0 : GI s0) (a : Int) (b_a : (-2147483648) ≤ a ∧ a ≤ 2147483647) (p_1_4 : 1 ≤ s0 1 4 ∧ s0 1 4 ≤ 40) (p_0_10 : 0 ≤ s0 0 10 ∧ s0 0 10 ≤ 9) : xe none 92 0 (lv_args 0 [.ref 0, vi a]) [] s0 0 0 (fun s' v => GI s' ∧ FL [69, 128, 384, 3276, 3277] s0 s' ∧ ∃ z, v = some (vi z) ∧ ((-1004) ≤ z ∧ z ≤ 39) ∧ (MkC s0 s' a z)) := by
  have f0 : FL [69, 128, 384, 3276, 3277] s0 s0 := FL.rf
  show xe none 92 0 [(0, .ref 0), (1, vi a)] [] s0 0 0 _
  obtain ⟨z1, e_z1⟩ : ∃ z, z = s0 1 4 := ⟨_, rfl⟩
  have g_z1 : (1 : Int) ≤ s0 1 4 ∧ s0 1 4 ≤ 40 := hG0 1 4
  obtain ⟨z2, e_z2⟩ : ∃ z, z = s0 0 10 := ⟨_, rfl⟩
  have g_z2 : (0 : Int) ≤ s0 0 10 ∧ s0 0 10 ≤ 9 := hG0 0 10
  refine x_A k92_0 (fun _ => rfl) ?_
  refine x_getR k92_1 (f := 0) rfl (q := 0) (n := 12) (kd := 3) ⟨by decide, rfl⟩ (q2 := 1) (by decide) rfl ?_
  refine x_A k92_4 (fun _ => rfl) ?_
  refine x_callV k92_5 (y := 59) (n := 1) (w0 := 0) (w1 := 1) (as := [vi a]) (rest := []) (by decide +kernel) (q := 1) (nq := 5) (kq := 4) ⟨by decide, rfl⟩ rfl rfl rfl rfl (xe_mono (C_X7_has_1 s0 hG0 a (by first | exact x_rb b_a rfl rfl | exact ⟨by omega, by omega⟩)) ?_)
  rintro s4 v ⟨h_s4, z3, rfl, hz_z3⟩
  rw [h_s4]
  rcases hz_z3 with ⟨c_z3, e_z3⟩ | ⟨c_z3, e_z3⟩
  · rw [e_z3]
    show xe none 92 8 [(0, .ref 0), (1, vi a)] [vi 1] s0 0 0 _
    refine x_if_ne k92_8 (t := 15) rfl ⟨by decide, by decide⟩ (fun c5 => ?_) (fun c5 => by exfalso; omega)
    refine x_A k92_15 (fun _ => rfl) ?_
    refine x_getR k92_16 (f := 0) rfl (q := 0) (n := 12) (kd := 3) ⟨by decide, rfl⟩ (q2 := 1) (by decide) rfl ?_
    refine x_A k92_19 (fun _ => rfl) ?_
    refine x_A k92_20 (fun _ => rfl) ?_
    refine x_getI k92_21 (f := 10) rfl (q := 0) (n := 12) (kd := 3) ⟨by decide, rfl⟩ (by decide) rfl ?_
    refine x_rw (e_z2.symm) ?_
    refine x_callV k92_24 (y := 64) (n := 2) (w0 := 0) (w1 := 2) (as := [vi a, vi z2]) (rest := []) (by decide +kernel) (q := 1) (nq := 5) (kq := 4) ⟨by decide, rfl⟩ rfl rfl rfl rfl (xe_mono (E_X7_isThere_1 s0 hG0 a (by first | exact x_rb b_a rfl rfl | exact ⟨by omega, by omega⟩) z2 (by first | exact x_rbe e_z2 g_z2 rfl rfl | exact x_rb g_z2 rfl rfl | exact ⟨by omega, by omega⟩)) ?_)
    rintro s7 v ⟨h_s7, z6, rfl, hz_z6⟩
    rw [h_s7]
    rcases hz_z6 with ⟨c_z6, e_z6, m_z6⟩ | ⟨e_z6, m_z6⟩
    · rw [e_z6]
      show xe none 92 27 [(0, .ref 0), (1, vi a)] [vi 1] s0 0 0 _
      refine x_if_ne k92_27 (t := 34) rfl ⟨by decide, by decide⟩ (fun c8 => ?_) (fun c8 => by exfalso; omega)
      refine x_A k92_34 (fun _ => rfl) ?_
      refine x_getR k92_35 (f := 9) rfl (q := 0) (n := 12) (kd := 3) ⟨by decide, rfl⟩ (q2 := 243) (by decide) rfl ?_
      refine x_callV k92_38 (y := 73) (n := 0) (w0 := 0) (w1 := 0) (as := []) (rest := []) (by decide +kernel) (q := 243) (nq := 13) (kq := 13) ⟨by decide, rfl⟩ rfl rfl rfl rfl (xe_mono (C_X8_forget_243 s0 hG0) ?_)
      rintro s10 v ⟨hG_s10, t_s10, rfl⟩
      have f_s10 : FL [69, 128, 384, 3276, 3277] s0 s10 := f0.tr t_s10 (by decide +kernel)
      have q11 : s10 1 4 = z1 := (t_s10 1 4 (show 69 ∉ [3276, 3277] from by decide +kernel)).trans e_z1.symm
      have q12 : s10 0 10 = z2 := (t_s10 0 10 (show 11 ∉ [3276, 3277] from by decide +kernel)).trans e_z2.symm
      show xe none 92 41 [(0, .ref 0), (1, vi a)] [] s10 0 0 _
      refine x_A k92_41 (fun _ => rfl) ?_
      refine x_getR k92_42 (f := 0) rfl (q := 0) (n := 12) (kd := 3) ⟨by decide, rfl⟩ (q2 := 1) (by decide) rfl ?_
      refine x_A k92_45 (fun _ => rfl) ?_
      refine x_A k92_46 (fun _ => rfl) ?_
      refine x_getI k92_47 (f := 10) rfl (q := 0) (n := 12) (kd := 3) ⟨by decide, rfl⟩ (by decide) rfl ?_
      refine x_rw (q12) ?_
      refine x_callV k92_50 (y := 60) (n := 2) (w0 := 0) (w1 := 2) (as := [vi a, vi z2]) (rest := []) (by decide +kernel) (q := 1) (nq := 5) (kq := 4) ⟨by decide, rfl⟩ rfl rfl rfl rfl (xe_mono (E_X7_add_1 s10 hG_s10 a (by first | exact x_rb b_a rfl rfl | exact ⟨by omega, by omega⟩) z2 (by first | exact x_rbe e_z2 g_z2 rfl rfl | exact x_rb g_z2 rfl rfl | exact ⟨by omega, by omega⟩)) ?_)
      rintro s14 v ⟨hG_s14, t_s14, z13, rfl, g_z13, xp_z13⟩
      have f_s14 : FL [69, 128, 384, 3276, 3277] s0 s14 := f_s10.tr t_s14 (by decide +kernel)
      have q15 : s14 0 10 = z2 := (t_s14 0 10 (show 11 ∉ [69, 128, 384] from by decide +kernel)).trans q12
      obtain ⟨z16, e_z16⟩ : ∃ z, z = s14 1 4 := ⟨_, rfl⟩
      have g_z16 : (1 : Int) ≤ s14 1 4 ∧ s14 1 4 ≤ 40 := hG_s14 1 4
      show xe none 92 53 [(0, .ref 0), (1, vi a)] [vi z13] s14 0 0 _
      have F2 : s10 2 = s0 2 := funext fun i => t_s10 2 i (show 128 ∉ _ from by decide)
      exact x_iret k92_53 rfl ⟨hG_s14, f_s14, z13, rfl, (by first | exact x_rbe e_z13 g_z13 rfl rfl | exact x_rb g_z13 rfl rfl | exact ⟨by omega, by omega⟩), (by unfold MkC; exact xp_z13.elim (fun ⟨u1, u2, u3, u4⟩ => Or.inr (Or.inr (Or.inl ⟨by omega, by omega, by omega, by omega, by omega, u4.trans F2⟩))) (fun ⟨u1, u2, u3, u4⟩ => Or.inr (Or.inr (Or.inr ⟨by omega, by omega, by omega, by omega, by omega, fun j => by rw [u4, show s10 1 4 = s0 1 4 by omega, show z2 = s0 0 10 by omega, F2]⟩))))⟩
    · rw [e_z6]
      show xe none 92 27 [(0, .ref 0), (1, vi a)] [vi 0] s0 0 0 _
      refine x_if_ne k92_27 (t := 34) rfl ⟨by decide, by decide⟩ (fun c17 => by exfalso; omega) (fun c17 => ?_)
      refine x_sipush k92_30 (by decide +kernel) ?_
      exact x_iret k92_33 rfl ⟨hG0, f0, (-1003), rfl, ⟨by decide, by decide⟩, (by unfold MkC; exact Or.inr (Or.inl ⟨by omega, by omega, rfl, rfl, rfl⟩))⟩
  · rw [e_z3]
    show xe none 92 8 [(0, .ref 0), (1, vi a)] [vi 0] s0 0 0 _
    refine x_if_ne k92_8 (t := 15) rfl ⟨by decide, by decide⟩ (fun c18 => by exfalso; omega) (fun c18 => ?_)
    refine x_sipush k92_11 (by decide +kernel) ?_
    exact x_iret k92_14 rfl ⟨hG0, f0, (-1001), rfl, ⟨by decide, by decide⟩, (by unfold MkC; exact Or.inl ⟨by omega, rfl, rfl, rfl⟩)⟩
theorem E_X11_tell_256 (s0 : xS) (hG0 : GI s0) (a : Int) (b_a : (-1) ≤ a ∧ a ≤ 39) (p_256_1 : 1 ≤ s0 256 1 ∧ s0 256 1 ≤ 39) (pa : 0 ≤ a ∧ a < s0 256 1) (i0_J : J s0) : xe none 139 0 (lv_args 0 [.ref 256, vi a]) [] s0 0 0 (fun s' v => GI s' ∧ FL [4098, 4160, 4224, 4288, 4352] s0 s' ∧ v = none ∧ (s' 256 1 = s0 256 1 + 1 ∧ (∀ j, s' 257 j = if j = (s0 256 1).toNat then s0 256 0 else s0 257 j) ∧ (∀ j, s' 258 j = if j = (s0 256 1).toNat then -1 else s0 258 j)) ∧ J s') := by
  have f0 : FL [4098, 4160, 4224, 4288, 4352] s0 s0 := FL.rf
  show xe none 139 0 [(0, .ref 256), (1, vi a)] [] s0 0 0 _
  obtain ⟨z1, e_z1⟩ : ∃ z, z = s0 256 1 := ⟨_, rfl⟩
  have g_z1 : (1 : Int) ≤ s0 256 1 ∧ s0 256 1 ≤ 40 := hG0 256 1
  refine x_A k139_0 (fun _ => rfl) ?_
  refine x_getR k139_1 (f := 2) rfl (q := 256) (n := 62) (kd := 15) ⟨by decide, rfl⟩ (q2 := 257) (by decide) rfl ?_
  refine x_A k139_4 (fun _ => rfl) ?_
  refine x_getI k139_5 (f := 1) rfl (q := 256) (n := 62) (kd := 15) ⟨by decide, rfl⟩ (by decide) rfl ?_
  refine x_rw (e_z1.symm) ?_
  refine x_A k139_8 (fun _ => rfl) ?_
  refine x_getI k139_9 (f := 0) rfl (q := 256) (n := 62) (kd := 15) ⟨by decide, rfl⟩ (by decide) rfl ?_
  refine x_top (fun z2 e_z2 => ?_)
  have g_z2 : (0 : Int) ≤ s0 256 0 ∧ s0 256 0 ≤ 9 := hG0 256 0
  refine x_iast k139_12 (q := 257) (n := 40) ⟨by decide, rfl⟩ (by decide) (by first | exact x_rbel e_z1 g_z1 rfl rfl | exact x_rbl g_z1 rfl rfl | exact ⟨by omega, by omega⟩) ?_
  refine x_nh (fun s3 e_s3 => ?_)
  have hG_s3 : GI s3 := by rw [e_s3]; exact hG0.up (show 0 ≤ z2 ∧ z2 ≤ 9 from (by first | exact x_rbe e_z2 g_z2 rfl rfl | exact x_rb g_z2 rfl rfl | exact ⟨by omega, by omega⟩))
  have f_s3 : FL [4098, 4160, 4224, 4288, 4352] s0 s3 := by rw [e_s3]; exact f0.up (show 4160 ∈ [4098, 4160, 4224, 4288, 4352] from by decide +kernel)
  have q4 : s3 256 1 = z1 := by rw [e_s3, x_up_q (by decide)]; exact e_z1.symm
  have q5 : s3 256 0 = z2 := by rw [e_s3, x_up_q (by decide)]; exact e_z2.symm
  have q6 : s3 257 z1.toNat = z2 := by rw [e_s3]; exact x_up_same
  refine x_A k139_13 (fun _ => rfl) ?_
  refine x_getR k139_14 (f := 3) rfl (q := 256) (n := 62) (kd := 15) ⟨by decide, rfl⟩ (q2 := 258) (by decide) rfl ?_
  refine x_A k139_17 (fun _ => rfl) ?_
  refine x_getI k139_18 (f := 1) rfl (q := 256) (n := 62) (kd := 15) ⟨by decide, rfl⟩ (by decide) rfl ?_
  refine x_rw (q4) ?_
  refine x_A k139_21 (fun _ => rfl) ?_
  refine x_iast k139_22 (q := 258) (n := 40) ⟨by decide, rfl⟩ (by decide) (by first | exact x_rbel e_z1 g_z1 rfl rfl | exact x_rbl g_z1 rfl rfl | exact ⟨by omega, by omega⟩) ?_
  refine x_nh (fun s7 e_s7 => ?_)
  have hG_s7 : GI s7 := by rw [e_s7]; exact hG_s3.up (show (-1) ≤ (-1) ∧ (-1) ≤ 9 from ⟨by decide, by decide⟩)
  have f_s7 : FL [4098, 4160, 4224, 4288, 4352] s0 s7 := by rw [e_s7]; exact f_s3.up (show 4224 ∈ [4098, 4160, 4224, 4288, 4352] from by decide +kernel)
  have q8 : s7 256 1 = z1 := by rw [e_s7, x_up_q (by decide)]; exact q4
  have q9 : s7 256 0 = z2 := by rw [e_s7, x_up_q (by decide)]; exact q5
  have q10 : s7 257 z1.toNat = z2 := by rw [e_s7, x_up_q (by first | decide | omega)]; exact q6
  have q11 : s7 258 z1.toNat = (-1) := by rw [e_s7]; exact x_up_same
  refine x_A k139_23 (fun _ => rfl) ?_
  refine x_getR k139_24 (f := 4) rfl (q := 256) (n := 62) (kd := 15) ⟨by decide, rfl⟩ (q2 := 259) (by decide) rfl ?_
  refine x_A k139_27 (fun _ => rfl) ?_
  refine x_getI k139_28 (f := 1) rfl (q := 256) (n := 62) (kd := 15) ⟨by decide, rfl⟩ (by decide) rfl ?_
  refine x_rw (q8) ?_
  refine x_A k139_31 (fun _ => rfl) ?_
  refine x_iast k139_32 (q := 259) (n := 40) ⟨by decide, rfl⟩ (by decide) (by first | exact x_rbel e_z1 g_z1 rfl rfl | exact x_rbl g_z1 rfl rfl | exact ⟨by omega, by omega⟩) ?_
  refine x_nh (fun s12 e_s12 => ?_)
  have hG_s12 : GI s12 := by rw [e_s12]; exact hG_s7.up (show (-1) ≤ (-1) ∧ (-1) ≤ 39 from ⟨by decide, by decide⟩)
  have f_s12 : FL [4098, 4160, 4224, 4288, 4352] s0 s12 := by rw [e_s12]; exact f_s7.up (show 4288 ∈ [4098, 4160, 4224, 4288, 4352] from by decide +kernel)
  have q13 : s12 256 1 = z1 := by rw [e_s12, x_up_q (by decide)]; exact q8
  have q14 : s12 256 0 = z2 := by rw [e_s12, x_up_q (by decide)]; exact q9
  have q15 : s12 257 z1.toNat = z2 := by rw [e_s12, x_up_q (by first | decide | omega)]; exact q10
  have q16 : s12 258 z1.toNat = (-1) := by rw [e_s12, x_up_q (by first | decide | omega)]; exact q11
  have q17 : s12 259 z1.toNat = (-1) := by rw [e_s12]; exact x_up_same
  refine x_A k139_33 (fun _ => rfl) ?_
  refine x_A k139_34 (fun _ => rfl) ?_
  refine x_getI k139_35 (f := 1) rfl (q := 256) (n := 62) (kd := 15) ⟨by decide, rfl⟩ (by decide) rfl ?_
  refine x_rw (q13) ?_
  refine x_A k139_38 (fun _ => rfl) ?_
  refine x_iadd k139_39 ?_
  refine x_top (fun z18 e_z18 => ?_)
  refine x_putI k139_40 (f := 1) rfl (q := 256) (n := 62) (kd := 15) ⟨by decide, rfl⟩ rfl rfl rfl ?_
  refine x_nh (fun s19 e_s19 => ?_)
  have hG_s19 : GI s19 := by rw [e_s19]; exact hG_s12.up (show 1 ≤ z18 ∧ z18 ≤ 40 from (by first | exact x_rbe e_z18 g_z18 rfl rfl | exact x_rb g_z18 rfl rfl | exact ⟨by omega, by omega⟩))
  have f_s19 : FL [4098, 4160, 4224, 4288, 4352] s0 s19 := by rw [e_s19]; exact f_s12.up (show 4098 ∈ [4098, 4160, 4224, 4288, 4352] from by decide +kernel)
  have q20 : s19 256 0 = z2 := by rw [e_s19, x_up_i (by decide)]; exact q14
  have q21 : s19 256 1 = z18 := by rw [e_s19]; exact x_up_same
  have q22 : s19 257 z1.toNat = z2 := by rw [e_s19, x_up_q (by first | decide | omega)]; exact q15
  have q23 : s19 258 z1.toNat = (-1) := by rw [e_s19, x_up_q (by first | decide | omega)]; exact q16
  have q24 : s19 259 z1.toNat = (-1) := by rw [e_s19, x_up_q (by first | decide | omega)]; exact q17
  refine x_A k139_43 (fun _ => rfl) ?_
  refine x_A k139_44 (fun _ => rfl) ?_
  refine x_getI k139_45 (f := 1) rfl (q := 256) (n := 62) (kd := 15) ⟨by decide, rfl⟩ (by decide) rfl ?_
  refine x_rw (q21) ?_
  refine x_A k139_48 (fun _ => rfl) ?_
  refine x_isub k139_49 ?_
  refine x_top (fun z25 e_z25 => ?_)
  refine x_A k139_50 (fun _ => rfl) ?_
  have J_t : J s19 := by rw [e_s19, e_s12, e_s7, e_s3]; exact J.tell i0_J hG0 e_z1 e_z2 (by omega) (by omega)
  have x_t : ∀ k, xup s19 (s19 256 0) k a ≠ z1 := by rw [e_s19, e_s12, e_s7, e_s3]; exact J.tellx i0_J hG0 e_z1 (by omega)
  refine x_callV k139_51 (y := 140) (n := 2) (w0 := 0) (w1 := 2) (as := [vi z25, vi a]) (rest := []) (by decide +kernel) (q := 256) (nq := 62) (kq := 15) ⟨by decide, rfl⟩ rfl rfl rfl rfl (xe_mono (D_X11_hang_256 s19 hG_s19 z25 (by first | exact x_rbe e_z25 g_z25 rfl rfl | exact x_rb g_z25 rfl rfl | exact ⟨by omega, by omega⟩) a (by first | exact x_rb b_a rfl rfl | exact ⟨by omega, by omega⟩)) ?_)
  rintro s27 v ⟨hG_s27, t_s27, rfl, xp_z26⟩
  have f_s27 : FL [4098, 4160, 4224, 4288, 4352] s0 s27 := f_s19.tr t_s27 (by decide +kernel)
  have q28 : s27 256 0 = z2 := (t_s27 256 0 (show 4097 ∉ [4352] from by decide +kernel)).trans q20
  have q29 : s27 256 1 = z18 := (t_s27 256 1 (show 4098 ∉ [4352] from by decide +kernel)).trans q21
  have q30 : s27 257 z1.toNat = z2 := (t_s27 257 z1.toNat (show 4160 ∉ [4352] from by decide +kernel)).trans q22
  have q31 : s27 258 z1.toNat = (-1) := (t_s27 258 z1.toNat (show 4224 ∉ [4352] from by decide +kernel)).trans q23
  have q32 : s27 259 z1.toNat = (-1) := (t_s27 259 z1.toNat (show 4288 ∉ [4352] from by decide +kernel)).trans q24
  show xe none 139 54 [(0, .ref 256), (1, vi a)] [] s27 0 0 _
  have J_h : J s27 := J.hang J_t hG_s19 (m := z25) (p := a) ⟨by omega, by omega⟩ ⟨by omega, by rw [q21]; omega⟩ (by rw [show z25 = z1 by omega]; exact x_t) t_s27 xp_z26
  exact x_vret k139_54 rfl ⟨hG_s27, f_s27, rfl, ⟨by omega, fun j => by rw [t_s27 257 j (show 4160 ∉ _ from by decide), e_s19, x_up_q (by decide), e_s12, x_up_q (by decide), e_s7, x_up_q (by decide), e_s3, x_up_at, show z1 = s0 256 1 by omega, show z2 = s0 256 0 by omega], fun j => by rw [t_s27 258 j (show 4224 ∉ _ from by decide), e_s19, x_up_q (by decide), e_s12, x_up_q (by decide), e_s7, x_up_at, e_s3, x_up_q (by decide), show z1 = s0 256 1 by omega]⟩, J_h⟩
theorem E_X11_mark_256 (s0 : xS) (hG0 : GI s0) (a : Int) (b_a : (-2147483648) ≤ a ∧ a ≤ 2147483647) (p_256_1 : 1 ≤ s0 256 1 ∧ s0 256 1 ≤ 40) (p_256_0 : 0 ≤ s0 256 0 ∧ s0 256 0 ≤ 9) (i0_J : J s0) : xe none 146 0 (lv_args 0 [.ref 256, vi a]) [] s0 0 0 (fun s' v => GI s' ∧ FL [4098, 4160, 4224, 4288, 4352] s0 s' ∧ ∃ z, v = some (vi z) ∧ ((-1004) ≤ z ∧ z ≤ 39) ∧ (MkR s0 s' a z) ∧ J s') := by
  have f0 : FL [4098, 4160, 4224, 4288, 4352] s0 s0 := FL.rf
  show xe none 146 0 [(0, .ref 256), (1, vi a)] [] s0 0 0 _
  obtain ⟨z1, e_z1⟩ : ∃ z, z = s0 256 1 := ⟨_, rfl⟩
  have g_z1 : (1 : Int) ≤ s0 256 1 ∧ s0 256 1 ≤ 40 := hG0 256 1
  obtain ⟨z2, e_z2⟩ : ∃ z, z = s0 256 0 := ⟨_, rfl⟩
  have g_z2 : (0 : Int) ≤ s0 256 0 ∧ s0 256 0 ≤ 9 := hG0 256 0
  refine x_A k146_0 (fun _ => rfl) ?_
  refine x_A k146_1 (fun _ => rfl) ?_
  refine x_callV k146_2 (y := 137) (n := 1) (w0 := 0) (w1 := 1) (as := [vi a]) (rest := []) (by decide +kernel) (q := 256) (nq := 62) (kq := 15) ⟨by decide, rfl⟩ rfl rfl rfl rfl (xe_mono (C_X11_isMark_256 s0 hG0 a (by first | exact x_rb b_a rfl rfl | exact ⟨by omega, by omega⟩)) ?_)
  rintro s4 v ⟨h_s4, z3, rfl, hz_z3⟩
  rw [h_s4]
  rcases hz_z3 with ⟨c_z3, e_z3⟩ | ⟨c_z3, e_z3⟩
  · rw [e_z3]
    show xe none 146 5 [(0, .ref 256), (1, vi a)] [vi 1] s0 0 0 _
    refine x_if_ne k146_5 (t := 12) rfl ⟨by decide, by decide⟩ (fun c5 => ?_) (fun c5 => by exfalso; omega)
    refine x_A k146_12 (fun _ => rfl) ?_
    refine x_A k146_13 (fun _ => rfl) ?_
    refine x_A k146_14 (fun _ => rfl) ?_
    refine x_getI k146_15 (f := 0) rfl (q := 256) (n := 62) (kd := 15) ⟨by decide, rfl⟩ (by decide) rfl ?_
    refine x_rw (e_z2.symm) ?_
    refine x_callV k146_18 (y := 142) (n := 2) (w0 := 0) (w1 := 2) (as := [vi a, vi z2]) (rest := []) (by decide +kernel) (q := 256) (nq := 62) (kq := 15) ⟨by decide, rfl⟩ rfl rfl rfl rfl (xe_mono (C_X11_isThere_256 s0 hG0 a (by first | exact x_rb b_a rfl rfl | exact ⟨by omega, by omega⟩) z2 (by first | exact x_rbe e_z2 g_z2 rfl rfl | exact x_rb g_z2 rfl rfl | exact ⟨by omega, by omega⟩)) ?_)
    rintro s7 v ⟨h_s7, z6, rfl, hz_z6⟩
    rw [h_s7]
    rcases hz_z6 with ⟨c_z6, e_z6, m_z6⟩ | ⟨e_z6, m_z6⟩
    · rw [e_z6]
      show xe none 146 21 [(0, .ref 256), (1, vi a)] [vi 1] s0 0 0 _
      refine x_if_ne k146_21 (t := 28) rfl ⟨by decide, by decide⟩ (fun c8 => ?_) (fun c8 => by exfalso; omega)
      refine x_A k146_28 (fun _ => rfl) ?_
      refine x_getI k146_29 (f := 1) rfl (q := 256) (n := 62) (kd := 15) ⟨by decide, rfl⟩ (by decide) rfl ?_
      refine x_rw (e_z1.symm) ?_
      refine x_bipush k146_32 (by decide +kernel) ?_
      refine x_ic_ne k146_34 (t := 41) rfl (by first | exact x_rbe e_z1 g_z1 rfl rfl | exact x_rb g_z1 rfl rfl | exact ⟨by omega, by omega⟩) ⟨by decide, by decide⟩ (fun c9 => ?_) (fun c9 => ?_)
      · skip
        refine x_A k146_41 (fun _ => rfl) ?_
        refine x_A k146_42 (fun _ => rfl) ?_
        refine x_callV k146_43 (y := 139) (n := 1) (w0 := 0) (w1 := 1) (as := [vi a]) (rest := []) (by decide +kernel) (q := 256) (nq := 62) (kq := 15) ⟨by decide, rfl⟩ rfl rfl rfl rfl (xe_mono (E_X11_tell_256 s0 hG0 a (by first | exact x_rb b_a rfl rfl | exact ⟨by omega, by omega⟩) ⟨by omega, by omega⟩ (by omega) i0_J) ?_)
        rintro s11 v ⟨hG_s11, t_s11, rfl, xp_z10, J_s11⟩
        have f_s11 : FL [4098, 4160, 4224, 4288, 4352] s0 s11 := f0.tr t_s11 (by decide +kernel)
        have q12 : s11 256 0 = z2 := (t_s11 256 0 (show 4097 ∉ [4098, 4160, 4224, 4288, 4352] from by decide +kernel)).trans e_z2.symm
        obtain ⟨z13, e_z13⟩ : ∃ z, z = s11 256 1 := ⟨_, rfl⟩
        have g_z13 : (1 : Int) ≤ s11 256 1 ∧ s11 256 1 ≤ 40 := hG_s11 256 1
        show xe none 146 46 [(0, .ref 256), (1, vi a)] [] s11 0 0 _
        refine x_A k146_46 (fun _ => rfl) ?_
        refine x_getI k146_47 (f := 1) rfl (q := 256) (n := 62) (kd := 15) ⟨by decide, rfl⟩ (by decide) rfl ?_
        refine x_rw (e_z13.symm) ?_
        refine x_A k146_50 (fun _ => rfl) ?_
        refine x_isub k146_51 ?_
        refine x_top (fun z14 e_z14 => ?_)
        exact x_iret k146_52 rfl ⟨hG_s11, f_s11, z14, rfl, (by first | exact x_rbe e_z14 g_z14 rfl rfl | exact x_rb g_z14 rfl rfl | exact ⟨by omega, by omega⟩), (by unfold MkR; exact Or.inr (Or.inr (Or.inr ⟨by omega, by omega, by omega, by omega, xp_z10.1, xp_z10.2.1, xp_z10.2.2⟩))), J_s11⟩
      · skip
        refine x_sipush k146_37 (by decide +kernel) ?_
        exact x_iret k146_40 rfl ⟨hG0, f0, (-1004), rfl, ⟨by decide, by decide⟩, (by unfold MkR; exact Or.inr (Or.inr (Or.inl ⟨by omega, by omega, by omega, rfl, rfl, rfl, rfl⟩))), i0_J⟩
    · rw [e_z6]
      show xe none 146 21 [(0, .ref 256), (1, vi a)] [vi 0] s0 0 0 _
      refine x_if_ne k146_21 (t := 28) rfl ⟨by decide, by decide⟩ (fun c15 => by exfalso; omega) (fun c15 => ?_)
      refine x_sipush k146_24 (by decide +kernel) ?_
      exact x_iret k146_27 rfl ⟨hG0, f0, (-1003), rfl, ⟨by decide, by decide⟩, (by unfold MkR; exact Or.inr (Or.inl ⟨by omega, by omega, rfl, rfl, rfl, rfl⟩)), i0_J⟩
  · rw [e_z3]
    show xe none 146 5 [(0, .ref 256), (1, vi a)] [vi 0] s0 0 0 _
    refine x_if_ne k146_5 (t := 12) rfl ⟨by decide, by decide⟩ (fun c16 => by exfalso; omega) (fun c16 => ?_)
    refine x_sipush k146_8 (by decide +kernel) ?_
    exact x_iret k146_11 rfl ⟨hG0, f0, (-1001), rfl, ⟨by decide, by decide⟩, (by unfold MkR; exact Or.inl ⟨by omega, rfl, rfl, rfl, rfl⟩), i0_J⟩
theorem E_X10_end_0 (s0 : xS) (hG0 : GI s0) (a : Int) (b_a : (-2147483648) ≤ a ∧ a ≤ 2147483647) (b : Int) (b_b : (-2147483648) ≤ b ∧ b ≤ 2147483647) (p_1_4 : 1 ≤ s0 1 4 ∧ s0 1 4 ≤ 40) (p_0_10 : 0 ≤ s0 0 10 ∧ s0 0 10 ≤ 9) : xe none 94 0 (lv_args 0 [.ref 0, vi a, vi b]) [] s0 0 0 (fun s' v => GI s' ∧ FL [192, 256, 3276, 3277] s0 s' ∧ ∃ z, v = some (vi z) ∧ ((-1004) ≤ z ∧ z ≤ 39) ∧ (EnC s0 s' a b)) := by
  have f0 : FL [192, 256, 3276, 3277] s0 s0 := FL.rf
  show xe none 94 0 [(0, .ref 0), (1, vi a), (2, vi b)] [] s0 0 0 _
  obtain ⟨z1, e_z1⟩ : ∃ z, z = s0 1 4 := ⟨_, rfl⟩
  have g_z1 : (1 : Int) ≤ s0 1 4 ∧ s0 1 4 ≤ 40 := hG0 1 4
  obtain ⟨z2, e_z2⟩ : ∃ z, z = s0 0 10 := ⟨_, rfl⟩
  have g_z2 : (0 : Int) ≤ s0 0 10 ∧ s0 0 10 ≤ 9 := hG0 0 10
  refine x_A k94_0 (fun _ => rfl) ?_
  refine x_getR k94_1 (f := 0) rfl (q := 0) (n := 12) (kd := 3) ⟨by decide, rfl⟩ (q2 := 1) (by decide) rfl ?_
  refine x_A k94_4 (fun _ => rfl) ?_
  refine x_callV k94_5 (y := 59) (n := 1) (w0 := 0) (w1 := 1) (as := [vi a]) (rest := []) (by decide +kernel) (q := 1) (nq := 5) (kq := 4) ⟨by decide, rfl⟩ rfl rfl rfl rfl (xe_mono (C_X7_has_1 s0 hG0 a (by first | exact x_rb b_a rfl rfl | exact ⟨by omega, by omega⟩)) ?_)
  rintro s4 v ⟨h_s4, z3, rfl, hz_z3⟩
  rw [h_s4]
  rcases hz_z3 with ⟨c_z3, e_z3⟩ | ⟨c_z3, e_z3⟩
  · rw [e_z3]
    show xe none 94 8 [(0, .ref 0), (1, vi a), (2, vi b)] [vi 1] s0 0 0 _
    refine x_if_eq k94_8 (t := 27) rfl ⟨by decide, by decide⟩ (fun c5 => by exfalso; omega) (fun c5 => ?_)
    refine x_A k94_11 (fun _ => rfl) ?_
    refine x_A k94_12 (fun _ => rfl) ?_
    refine x_ic_eq k94_13 (t := 31) rfl (by first | exact x_rb b_b rfl rfl | exact ⟨by omega, by omega⟩) ⟨by decide, by decide⟩ (fun c6 => ?_) (fun c6 => ?_)
    · skip
      refine x_A k94_31 (fun _ => rfl) ?_
      refine x_if_eq k94_32 (t := 55) rfl (by first | exact x_rb b_a rfl rfl | exact ⟨by omega, by omega⟩) (fun c7 => ?_) (fun c7 => ?_)
      · skip
        refine x_sipush k94_55 (by decide +kernel) ?_
        exact x_iret k94_58 rfl ⟨hG0, f0, (-1003), rfl, ⟨by decide, by decide⟩, (by unfold EnC; exact Or.inr (Or.inl ⟨by omega, by omega, rfl⟩))⟩
      · skip
        refine x_A k94_35 (fun _ => rfl) ?_
        refine x_A k94_36 (fun _ => rfl) ?_
        refine x_ic_eq k94_37 (t := 55) rfl (by first | exact x_rb b_a rfl rfl | exact ⟨by omega, by omega⟩) (by first | exact x_rb b_b rfl rfl | exact ⟨by omega, by omega⟩) (fun c8 => by exfalso; omega) (fun c8 => ?_)
        refine x_A k94_40 (fun _ => rfl) ?_
        refine x_getR k94_41 (f := 0) rfl (q := 0) (n := 12) (kd := 3) ⟨by decide, rfl⟩ (q2 := 1) (by decide) rfl ?_
        refine x_A k94_44 (fun _ => rfl) ?_
        refine x_A k94_45 (fun _ => rfl) ?_
        refine x_getI k94_46 (f := 10) rfl (q := 0) (n := 12) (kd := 3) ⟨by decide, rfl⟩ (by decide) rfl ?_
        refine x_rw (e_z2.symm) ?_
        refine x_callV k94_49 (y := 64) (n := 2) (w0 := 0) (w1 := 2) (as := [vi a, vi z2]) (rest := []) (by decide +kernel) (q := 1) (nq := 5) (kq := 4) ⟨by decide, rfl⟩ rfl rfl rfl rfl (xe_mono (E_X7_isThere_1 s0 hG0 a (by first | exact x_rb b_a rfl rfl | exact ⟨by omega, by omega⟩) z2 (by first | exact x_rbe e_z2 g_z2 rfl rfl | exact x_rb g_z2 rfl rfl | exact ⟨by omega, by omega⟩)) ?_)
        rintro s10 v ⟨h_s10, z9, rfl, hz_z9⟩
        rw [h_s10]
        rcases hz_z9 with ⟨c_z9, e_z9, m_z9⟩ | ⟨e_z9, m_z9⟩
        · rw [e_z9]
          show xe none 94 52 [(0, .ref 0), (1, vi a), (2, vi b)] [vi 1] s0 0 0 _
          refine x_if_ne k94_52 (t := 59) rfl ⟨by decide, by decide⟩ (fun c11 => ?_) (fun c11 => by exfalso; omega)
          refine x_A k94_59 (fun _ => rfl) ?_
          refine x_A k94_60 (fun _ => rfl) ?_
          refine x_ic_eq k94_61 (t := 83) rfl (by first | exact x_rb b_b rfl rfl | exact ⟨by omega, by omega⟩) ⟨by decide, by decide⟩ (fun c12 => ?_) (fun c12 => by exfalso; omega)
          refine x_A k94_83 (fun _ => rfl) ?_
          refine x_getR k94_84 (f := 9) rfl (q := 0) (n := 12) (kd := 3) ⟨by decide, rfl⟩ (q2 := 243) (by decide) rfl ?_
          refine x_callV k94_87 (y := 73) (n := 0) (w0 := 0) (w1 := 0) (as := []) (rest := []) (by decide +kernel) (q := 243) (nq := 13) (kq := 13) ⟨by decide, rfl⟩ rfl rfl rfl rfl (xe_mono (C_X8_forget_243 s0 hG0) ?_)
          rintro s14 v ⟨hG_s14, t_s14, rfl⟩
          have f_s14 : FL [192, 256, 3276, 3277] s0 s14 := f0.tr t_s14 (by decide +kernel)
          have q15 : s14 1 4 = z1 := (t_s14 1 4 (show 69 ∉ [3276, 3277] from by decide +kernel)).trans e_z1.symm
          have q16 : s14 0 10 = z2 := (t_s14 0 10 (show 11 ∉ [3276, 3277] from by decide +kernel)).trans e_z2.symm
          show xe none 94 90 [(0, .ref 0), (1, vi a), (2, vi b)] [] s14 0 0 _
          have F3 : s14 3 = s0 3 := funext fun i => t_s14 3 i (show 192 ∉ _ from by decide)
          refine x_A k94_90 (fun _ => rfl) ?_
          refine x_getR k94_91 (f := 0) rfl (q := 0) (n := 12) (kd := 3) ⟨by decide, rfl⟩ (q2 := 1) (by decide) rfl ?_
          refine x_getR k94_94 (f := 1) rfl (q := 1) (n := 5) (kd := 4) ⟨by decide, rfl⟩ (q2 := 3) (by decide) rfl ?_
          refine x_A k94_97 (fun _ => rfl) ?_
          refine x_A k94_98 (fun _ => rfl) ?_
          refine x_getI k94_99 (f := 10) rfl (q := 0) (n := 12) (kd := 3) ⟨by decide, rfl⟩ (by decide) rfl ?_
          refine x_rw (q16) ?_
          refine x_iast k94_102 (q := 3) (n := 40) ⟨by decide, rfl⟩ (by decide) (by first | exact x_rbl b_a rfl rfl | exact ⟨by omega, by omega⟩) ?_
          refine x_nh (fun s17 e_s17 => ?_)
          have hG_s17 : GI s17 := by rw [e_s17]; exact hG_s14.up (show (-1) ≤ z2 ∧ z2 ≤ 9 from (by first | exact x_rbe e_z2 g_z2 rfl rfl | exact x_rb g_z2 rfl rfl | exact ⟨by omega, by omega⟩))
          have f_s17 : FL [192, 256, 3276, 3277] s0 s17 := by rw [e_s17]; exact f_s14.up (show 192 ∈ [192, 256, 3276, 3277] from by decide +kernel)
          have q18 : s17 1 4 = z1 := by rw [e_s17, x_up_q (by decide)]; exact q15
          have q19 : s17 0 10 = z2 := by rw [e_s17, x_up_q (by decide)]; exact q16
          have q20 : s17 3 a.toNat = z2 := by rw [e_s17]; exact x_up_same
          refine x_A k94_103 (fun _ => rfl) ?_
          refine x_getR k94_104 (f := 0) rfl (q := 0) (n := 12) (kd := 3) ⟨by decide, rfl⟩ (q2 := 1) (by decide) rfl ?_
          refine x_getR k94_107 (f := 2) rfl (q := 1) (n := 5) (kd := 4) ⟨by decide, rfl⟩ (q2 := 4) (by decide) rfl ?_
          refine x_A k94_110 (fun _ => rfl) ?_
          refine x_A k94_111 (fun _ => rfl) ?_
          refine x_iast k94_112 (q := 4) (n := 40) ⟨by decide, rfl⟩ (by decide) (by first | exact x_rbl b_a rfl rfl | exact ⟨by omega, by omega⟩) ?_
          refine x_nh (fun s21 e_s21 => ?_)
          have hG_s21 : GI s21 := by rw [e_s21]; exact hG_s17.up (show (-1) ≤ b ∧ b ≤ 39 from (by first | exact x_rb b_b rfl rfl | exact ⟨by omega, by omega⟩))
          have f_s21 : FL [192, 256, 3276, 3277] s0 s21 := by rw [e_s21]; exact f_s17.up (show 256 ∈ [192, 256, 3276, 3277] from by decide +kernel)
          have q22 : s21 1 4 = z1 := by rw [e_s21, x_up_q (by decide)]; exact q18
          have q23 : s21 0 10 = z2 := by rw [e_s21, x_up_q (by decide)]; exact q19
          have q24 : s21 3 a.toNat = z2 := by rw [e_s21, x_up_q (by first | decide | omega)]; exact q20
          have q25 : s21 4 a.toNat = b := by rw [e_s21]; exact x_up_same
          refine x_A k94_113 (fun _ => rfl) ?_
          refine x_getR k94_114 (f := 0) rfl (q := 0) (n := 12) (kd := 3) ⟨by decide, rfl⟩ (q2 := 1) (by decide) rfl ?_
          refine x_A k94_117 (fun _ => rfl) ?_
          refine x_A k94_118 (fun _ => rfl) ?_
          refine x_getI k94_119 (f := 10) rfl (q := 0) (n := 12) (kd := 3) ⟨by decide, rfl⟩ (by decide) rfl ?_
          refine x_rw (q23) ?_
          refine x_callV k94_122 (y := 67) (n := 2) (w0 := 0) (w1 := 2) (as := [vi a, vi z2]) (rest := []) (by decide +kernel) (q := 1) (nq := 5) (kq := 4) ⟨by decide, rfl⟩ rfl rfl rfl rfl (xe_mono (C_X7_countBelow_1 s21 hG_s21 a (by first | exact x_rb b_a rfl rfl | exact ⟨by omega, by omega⟩) z2 (by first | exact x_rbe e_z2 g_z2 rfl rfl | exact x_rb g_z2 rfl rfl | exact ⟨by omega, by omega⟩)) ?_)
          rintro s27 v ⟨-, t_s27, z26, rfl, g_z26⟩
          rw [t_s27.nil]
          show xe none 94 125 [(0, .ref 0), (1, vi a), (2, vi b)] [vi z26] s21 0 0 _
          refine x_A k94_125 (fun _ => rfl) ?_
          refine x_isub k94_126 ?_
          refine x_top (fun z28 e_z28 => ?_)
          exact x_iret k94_127 rfl ⟨hG_s21, f_s21, z28, rfl, (by first | exact x_rbe e_z28 g_z28 rfl rfl | exact x_rb g_z28 rfl rfl | exact ⟨by omega, by omega⟩), (by unfold EnC; exact Or.inr (Or.inr ⟨by omega, by omega, fun j => by rw [e_s21, x_up_q (by decide), e_s17, x_up_at, show z2 = s0 0 10 by omega, F3]⟩))⟩
        · rw [e_z9]
          show xe none 94 52 [(0, .ref 0), (1, vi a), (2, vi b)] [vi 0] s0 0 0 _
          refine x_if_ne k94_52 (t := 59) rfl ⟨by decide, by decide⟩ (fun c29 => by exfalso; omega) (fun c29 => ?_)
          refine x_sipush k94_55 (by decide +kernel) ?_
          exact x_iret k94_58 rfl ⟨hG0, f0, (-1003), rfl, ⟨by decide, by decide⟩, (by unfold EnC; exact Or.inr (Or.inl ⟨by omega, by omega, rfl⟩))⟩
    · skip
      refine x_A k94_16 (fun _ => rfl) ?_
      refine x_getR k94_17 (f := 0) rfl (q := 0) (n := 12) (kd := 3) ⟨by decide, rfl⟩ (q2 := 1) (by decide) rfl ?_
      refine x_A k94_20 (fun _ => rfl) ?_
      refine x_callV k94_21 (y := 59) (n := 1) (w0 := 0) (w1 := 1) (as := [vi b]) (rest := []) (by decide +kernel) (q := 1) (nq := 5) (kq := 4) ⟨by decide, rfl⟩ rfl rfl rfl rfl (xe_mono (C_X7_has_1 s0 hG0 b (by first | exact x_rb b_b rfl rfl | exact ⟨by omega, by omega⟩)) ?_)
      rintro s31 v ⟨h_s31, z30, rfl, hz_z30⟩
      rw [h_s31]
      rcases hz_z30 with ⟨c_z30, e_z30⟩ | ⟨c_z30, e_z30⟩
      · rw [e_z30]
        show xe none 94 24 [(0, .ref 0), (1, vi a), (2, vi b)] [vi 1] s0 0 0 _
        refine x_if_ne k94_24 (t := 31) rfl ⟨by decide, by decide⟩ (fun c32 => ?_) (fun c32 => by exfalso; omega)
        refine x_A k94_31 (fun _ => rfl) ?_
        refine x_if_eq k94_32 (t := 55) rfl (by first | exact x_rb b_a rfl rfl | exact ⟨by omega, by omega⟩) (fun c33 => ?_) (fun c33 => ?_)
        · skip
          refine x_sipush k94_55 (by decide +kernel) ?_
          exact x_iret k94_58 rfl ⟨hG0, f0, (-1003), rfl, ⟨by decide, by decide⟩, (by unfold EnC; exact Or.inr (Or.inl ⟨by omega, by omega, rfl⟩))⟩
        · skip
          refine x_A k94_35 (fun _ => rfl) ?_
          refine x_A k94_36 (fun _ => rfl) ?_
          refine x_ic_eq k94_37 (t := 55) rfl (by first | exact x_rb b_a rfl rfl | exact ⟨by omega, by omega⟩) (by first | exact x_rb b_b rfl rfl | exact ⟨by omega, by omega⟩) (fun c34 => ?_) (fun c34 => ?_)
          · skip
            refine x_sipush k94_55 (by decide +kernel) ?_
            exact x_iret k94_58 rfl ⟨hG0, f0, (-1003), rfl, ⟨by decide, by decide⟩, (by unfold EnC; exact Or.inr (Or.inl ⟨by omega, by omega, rfl⟩))⟩
          · skip
            refine x_A k94_40 (fun _ => rfl) ?_
            refine x_getR k94_41 (f := 0) rfl (q := 0) (n := 12) (kd := 3) ⟨by decide, rfl⟩ (q2 := 1) (by decide) rfl ?_
            refine x_A k94_44 (fun _ => rfl) ?_
            refine x_A k94_45 (fun _ => rfl) ?_
            refine x_getI k94_46 (f := 10) rfl (q := 0) (n := 12) (kd := 3) ⟨by decide, rfl⟩ (by decide) rfl ?_
            refine x_rw (e_z2.symm) ?_
            refine x_callV k94_49 (y := 64) (n := 2) (w0 := 0) (w1 := 2) (as := [vi a, vi z2]) (rest := []) (by decide +kernel) (q := 1) (nq := 5) (kq := 4) ⟨by decide, rfl⟩ rfl rfl rfl rfl (xe_mono (E_X7_isThere_1 s0 hG0 a (by first | exact x_rb b_a rfl rfl | exact ⟨by omega, by omega⟩) z2 (by first | exact x_rbe e_z2 g_z2 rfl rfl | exact x_rb g_z2 rfl rfl | exact ⟨by omega, by omega⟩)) ?_)
            rintro s36 v ⟨h_s36, z35, rfl, hz_z35⟩
            rw [h_s36]
            rcases hz_z35 with ⟨c_z35, e_z35, m_z35⟩ | ⟨e_z35, m_z35⟩
            · rw [e_z35]
              show xe none 94 52 [(0, .ref 0), (1, vi a), (2, vi b)] [vi 1] s0 0 0 _
              refine x_if_ne k94_52 (t := 59) rfl ⟨by decide, by decide⟩ (fun c37 => ?_) (fun c37 => by exfalso; omega)
              refine x_A k94_59 (fun _ => rfl) ?_
              refine x_A k94_60 (fun _ => rfl) ?_
              refine x_ic_eq k94_61 (t := 83) rfl (by first | exact x_rb b_b rfl rfl | exact ⟨by omega, by omega⟩) ⟨by decide, by decide⟩ (fun c38 => by exfalso; omega) (fun c38 => ?_)
              refine x_A k94_64 (fun _ => rfl) ?_
              refine x_getR k94_65 (f := 0) rfl (q := 0) (n := 12) (kd := 3) ⟨by decide, rfl⟩ (q2 := 1) (by decide) rfl ?_
              refine x_A k94_68 (fun _ => rfl) ?_
              refine x_A k94_69 (fun _ => rfl) ?_
              refine x_getI k94_70 (f := 10) rfl (q := 0) (n := 12) (kd := 3) ⟨by decide, rfl⟩ (by decide) rfl ?_
              refine x_rw (e_z2.symm) ?_
              refine x_callV k94_73 (y := 64) (n := 2) (w0 := 0) (w1 := 2) (as := [vi b, vi z2]) (rest := []) (by decide +kernel) (q := 1) (nq := 5) (kq := 4) ⟨by decide, rfl⟩ rfl rfl rfl rfl (xe_mono (E_X7_isThere_1 s0 hG0 b (by first | exact x_rb b_b rfl rfl | exact ⟨by omega, by omega⟩) z2 (by first | exact x_rbe e_z2 g_z2 rfl rfl | exact x_rb g_z2 rfl rfl | exact ⟨by omega, by omega⟩)) ?_)
              rintro s40 v ⟨h_s40, z39, rfl, hz_z39⟩
              rw [h_s40]
              rcases hz_z39 with ⟨c_z39, e_z39, m_z39⟩ | ⟨e_z39, m_z39⟩
              · rw [e_z39]
                show xe none 94 76 [(0, .ref 0), (1, vi a), (2, vi b)] [vi 1] s0 0 0 _
                refine x_if_ne k94_76 (t := 83) rfl ⟨by decide, by decide⟩ (fun c41 => ?_) (fun c41 => by exfalso; omega)
                refine x_A k94_83 (fun _ => rfl) ?_
                refine x_getR k94_84 (f := 9) rfl (q := 0) (n := 12) (kd := 3) ⟨by decide, rfl⟩ (q2 := 243) (by decide) rfl ?_
                refine x_callV k94_87 (y := 73) (n := 0) (w0 := 0) (w1 := 0) (as := []) (rest := []) (by decide +kernel) (q := 243) (nq := 13) (kq := 13) ⟨by decide, rfl⟩ rfl rfl rfl rfl (xe_mono (C_X8_forget_243 s0 hG0) ?_)
                rintro s43 v ⟨hG_s43, t_s43, rfl⟩
                have f_s43 : FL [192, 256, 3276, 3277] s0 s43 := f0.tr t_s43 (by decide +kernel)
                have q44 : s43 1 4 = z1 := (t_s43 1 4 (show 69 ∉ [3276, 3277] from by decide +kernel)).trans e_z1.symm
                have q45 : s43 0 10 = z2 := (t_s43 0 10 (show 11 ∉ [3276, 3277] from by decide +kernel)).trans e_z2.symm
                show xe none 94 90 [(0, .ref 0), (1, vi a), (2, vi b)] [] s43 0 0 _
                have F3 : s43 3 = s0 3 := funext fun i => t_s43 3 i (show 192 ∉ _ from by decide)
                refine x_A k94_90 (fun _ => rfl) ?_
                refine x_getR k94_91 (f := 0) rfl (q := 0) (n := 12) (kd := 3) ⟨by decide, rfl⟩ (q2 := 1) (by decide) rfl ?_
                refine x_getR k94_94 (f := 1) rfl (q := 1) (n := 5) (kd := 4) ⟨by decide, rfl⟩ (q2 := 3) (by decide) rfl ?_
                refine x_A k94_97 (fun _ => rfl) ?_
                refine x_A k94_98 (fun _ => rfl) ?_
                refine x_getI k94_99 (f := 10) rfl (q := 0) (n := 12) (kd := 3) ⟨by decide, rfl⟩ (by decide) rfl ?_
                refine x_rw (q45) ?_
                refine x_iast k94_102 (q := 3) (n := 40) ⟨by decide, rfl⟩ (by decide) (by first | exact x_rbl b_a rfl rfl | exact ⟨by omega, by omega⟩) ?_
                refine x_nh (fun s46 e_s46 => ?_)
                have hG_s46 : GI s46 := by rw [e_s46]; exact hG_s43.up (show (-1) ≤ z2 ∧ z2 ≤ 9 from (by first | exact x_rbe e_z2 g_z2 rfl rfl | exact x_rb g_z2 rfl rfl | exact ⟨by omega, by omega⟩))
                have f_s46 : FL [192, 256, 3276, 3277] s0 s46 := by rw [e_s46]; exact f_s43.up (show 192 ∈ [192, 256, 3276, 3277] from by decide +kernel)
                have q47 : s46 1 4 = z1 := by rw [e_s46, x_up_q (by decide)]; exact q44
                have q48 : s46 0 10 = z2 := by rw [e_s46, x_up_q (by decide)]; exact q45
                have q49 : s46 3 a.toNat = z2 := by rw [e_s46]; exact x_up_same
                refine x_A k94_103 (fun _ => rfl) ?_
                refine x_getR k94_104 (f := 0) rfl (q := 0) (n := 12) (kd := 3) ⟨by decide, rfl⟩ (q2 := 1) (by decide) rfl ?_
                refine x_getR k94_107 (f := 2) rfl (q := 1) (n := 5) (kd := 4) ⟨by decide, rfl⟩ (q2 := 4) (by decide) rfl ?_
                refine x_A k94_110 (fun _ => rfl) ?_
                refine x_A k94_111 (fun _ => rfl) ?_
                refine x_iast k94_112 (q := 4) (n := 40) ⟨by decide, rfl⟩ (by decide) (by first | exact x_rbl b_a rfl rfl | exact ⟨by omega, by omega⟩) ?_
                refine x_nh (fun s50 e_s50 => ?_)
                have hG_s50 : GI s50 := by rw [e_s50]; exact hG_s46.up (show (-1) ≤ b ∧ b ≤ 39 from (by first | exact x_rb b_b rfl rfl | exact ⟨by omega, by omega⟩))
                have f_s50 : FL [192, 256, 3276, 3277] s0 s50 := by rw [e_s50]; exact f_s46.up (show 256 ∈ [192, 256, 3276, 3277] from by decide +kernel)
                have q51 : s50 1 4 = z1 := by rw [e_s50, x_up_q (by decide)]; exact q47
                have q52 : s50 0 10 = z2 := by rw [e_s50, x_up_q (by decide)]; exact q48
                have q53 : s50 3 a.toNat = z2 := by rw [e_s50, x_up_q (by first | decide | omega)]; exact q49
                have q54 : s50 4 a.toNat = b := by rw [e_s50]; exact x_up_same
                refine x_A k94_113 (fun _ => rfl) ?_
                refine x_getR k94_114 (f := 0) rfl (q := 0) (n := 12) (kd := 3) ⟨by decide, rfl⟩ (q2 := 1) (by decide) rfl ?_
                refine x_A k94_117 (fun _ => rfl) ?_
                refine x_A k94_118 (fun _ => rfl) ?_
                refine x_getI k94_119 (f := 10) rfl (q := 0) (n := 12) (kd := 3) ⟨by decide, rfl⟩ (by decide) rfl ?_
                refine x_rw (q52) ?_
                refine x_callV k94_122 (y := 67) (n := 2) (w0 := 0) (w1 := 2) (as := [vi a, vi z2]) (rest := []) (by decide +kernel) (q := 1) (nq := 5) (kq := 4) ⟨by decide, rfl⟩ rfl rfl rfl rfl (xe_mono (C_X7_countBelow_1 s50 hG_s50 a (by first | exact x_rb b_a rfl rfl | exact ⟨by omega, by omega⟩) z2 (by first | exact x_rbe e_z2 g_z2 rfl rfl | exact x_rb g_z2 rfl rfl | exact ⟨by omega, by omega⟩)) ?_)
                rintro s56 v ⟨-, t_s56, z55, rfl, g_z55⟩
                rw [t_s56.nil]
                show xe none 94 125 [(0, .ref 0), (1, vi a), (2, vi b)] [vi z55] s50 0 0 _
                refine x_A k94_125 (fun _ => rfl) ?_
                refine x_isub k94_126 ?_
                refine x_top (fun z57 e_z57 => ?_)
                exact x_iret k94_127 rfl ⟨hG_s50, f_s50, z57, rfl, (by first | exact x_rbe e_z57 g_z57 rfl rfl | exact x_rb g_z57 rfl rfl | exact ⟨by omega, by omega⟩), (by unfold EnC; exact Or.inr (Or.inr ⟨by omega, by omega, fun j => by rw [e_s50, x_up_q (by decide), e_s46, x_up_at, show z2 = s0 0 10 by omega, F3]⟩))⟩
              · rw [e_z39]
                show xe none 94 76 [(0, .ref 0), (1, vi a), (2, vi b)] [vi 0] s0 0 0 _
                refine x_if_ne k94_76 (t := 83) rfl ⟨by decide, by decide⟩ (fun c58 => by exfalso; omega) (fun c58 => ?_)
                refine x_sipush k94_79 (by decide +kernel) ?_
                exact x_iret k94_82 rfl ⟨hG0, f0, (-1003), rfl, ⟨by decide, by decide⟩, (by unfold EnC; exact Or.inr (Or.inl ⟨by omega, by omega, rfl⟩))⟩
            · rw [e_z35]
              show xe none 94 52 [(0, .ref 0), (1, vi a), (2, vi b)] [vi 0] s0 0 0 _
              refine x_if_ne k94_52 (t := 59) rfl ⟨by decide, by decide⟩ (fun c59 => by exfalso; omega) (fun c59 => ?_)
              refine x_sipush k94_55 (by decide +kernel) ?_
              exact x_iret k94_58 rfl ⟨hG0, f0, (-1003), rfl, ⟨by decide, by decide⟩, (by unfold EnC; exact Or.inr (Or.inl ⟨by omega, by omega, rfl⟩))⟩
      · rw [e_z30]
        show xe none 94 24 [(0, .ref 0), (1, vi a), (2, vi b)] [vi 0] s0 0 0 _
        refine x_if_ne k94_24 (t := 31) rfl ⟨by decide, by decide⟩ (fun c60 => by exfalso; omega) (fun c60 => ?_)
        refine x_sipush k94_27 (by decide +kernel) ?_
        exact x_iret k94_30 rfl ⟨hG0, f0, (-1001), rfl, ⟨by decide, by decide⟩, (by unfold EnC; exact Or.inl ⟨by omega, rfl⟩)⟩
  · rw [e_z3]
    show xe none 94 8 [(0, .ref 0), (1, vi a), (2, vi b)] [vi 0] s0 0 0 _
    refine x_if_eq k94_8 (t := 27) rfl ⟨by decide, by decide⟩ (fun c61 => ?_) (fun c61 => by exfalso; omega)
    refine x_sipush k94_27 (by decide +kernel) ?_
    exact x_iret k94_30 rfl ⟨hG0, f0, (-1001), rfl, ⟨by decide, by decide⟩, (by unfold EnC; exact Or.inl ⟨by omega, rfl⟩)⟩
theorem E_X11_end_256 (s0 : xS) (hG0 : GI s0) (a : Int) (b_a : (-2147483648) ≤ a ∧ a ≤ 2147483647) (b : Int) (b_b : (-2147483648) ≤ b ∧ b ≤ 2147483647) (p_256_1 : 1 ≤ s0 256 1 ∧ s0 256 1 ≤ 40) (p_256_0 : 0 ≤ s0 256 0 ∧ s0 256 0 ≤ 9) (i0_J : J s0) : xe none 148 0 (lv_args 0 [.ref 256, vi a, vi b]) [] s0 0 0 (fun s' v => GI s' ∧ FL [4224, 4288] s0 s' ∧ ∃ z, v = some (vi z) ∧ ((-1004) ≤ z ∧ z ≤ 39) ∧ (EnR s0 s' a b) ∧ J s') := by
  have f0 : FL [4224, 4288] s0 s0 := FL.rf
  show xe none 148 0 [(0, .ref 256), (1, vi a), (2, vi b)] [] s0 0 0 _
  obtain ⟨z1, e_z1⟩ : ∃ z, z = s0 256 1 := ⟨_, rfl⟩
  have g_z1 : (1 : Int) ≤ s0 256 1 ∧ s0 256 1 ≤ 40 := hG0 256 1
  obtain ⟨z2, e_z2⟩ : ∃ z, z = s0 256 0 := ⟨_, rfl⟩
  have g_z2 : (0 : Int) ≤ s0 256 0 ∧ s0 256 0 ≤ 9 := hG0 256 0
  refine x_A k148_0 (fun _ => rfl) ?_
  refine x_A k148_1 (fun _ => rfl) ?_
  refine x_callV k148_2 (y := 137) (n := 1) (w0 := 0) (w1 := 1) (as := [vi a]) (rest := []) (by decide +kernel) (q := 256) (nq := 62) (kq := 15) ⟨by decide, rfl⟩ rfl rfl rfl rfl (xe_mono (C_X11_isMark_256 s0 hG0 a (by first | exact x_rb b_a rfl rfl | exact ⟨by omega, by omega⟩)) ?_)
  rintro s4 v ⟨h_s4, z3, rfl, hz_z3⟩
  rw [h_s4]
  rcases hz_z3 with ⟨c_z3, e_z3⟩ | ⟨c_z3, e_z3⟩
  · rw [e_z3]
    show xe none 148 5 [(0, .ref 256), (1, vi a), (2, vi b)] [vi 1] s0 0 0 _
    refine x_if_eq k148_5 (t := 21) rfl ⟨by decide, by decide⟩ (fun c5 => by exfalso; omega) (fun c5 => ?_)
    refine x_A k148_8 (fun _ => rfl) ?_
    refine x_A k148_9 (fun _ => rfl) ?_
    refine x_ic_eq k148_10 (t := 25) rfl (by first | exact x_rb b_b rfl rfl | exact ⟨by omega, by omega⟩) ⟨by decide, by decide⟩ (fun c6 => ?_) (fun c6 => ?_)
    · skip
      refine x_A k148_25 (fun _ => rfl) ?_
      refine x_if_eq k148_26 (t := 63) rfl (by first | exact x_rb b_a rfl rfl | exact ⟨by omega, by omega⟩) (fun c7 => ?_) (fun c7 => ?_)
      · skip
        refine x_sipush k148_63 (by decide +kernel) ?_
        exact x_iret k148_66 rfl ⟨hG0, f0, (-1003), rfl, ⟨by decide, by decide⟩, (by unfold EnR; exact Or.inr (Or.inl ⟨by omega, by omega, rfl⟩)), i0_J⟩
      · skip
        refine x_A k148_29 (fun _ => rfl) ?_
        refine x_A k148_30 (fun _ => rfl) ?_
        refine x_ic_eq k148_31 (t := 63) rfl (by first | exact x_rb b_a rfl rfl | exact ⟨by omega, by omega⟩) (by first | exact x_rb b_b rfl rfl | exact ⟨by omega, by omega⟩) (fun c8 => by exfalso; omega) (fun c8 => ?_)
        refine x_A k148_34 (fun _ => rfl) ?_
        refine x_A k148_35 (fun _ => rfl) ?_
        refine x_A k148_36 (fun _ => rfl) ?_
        refine x_getI k148_37 (f := 0) rfl (q := 256) (n := 62) (kd := 15) ⟨by decide, rfl⟩ (by decide) rfl ?_
        refine x_rw (e_z2.symm) ?_
        refine x_callV k148_40 (y := 142) (n := 2) (w0 := 0) (w1 := 2) (as := [vi a, vi z2]) (rest := []) (by decide +kernel) (q := 256) (nq := 62) (kq := 15) ⟨by decide, rfl⟩ rfl rfl rfl rfl (xe_mono (C_X11_isThere_256 s0 hG0 a (by first | exact x_rb b_a rfl rfl | exact ⟨by omega, by omega⟩) z2 (by first | exact x_rbe e_z2 g_z2 rfl rfl | exact x_rb g_z2 rfl rfl | exact ⟨by omega, by omega⟩)) ?_)
        rintro s10 v ⟨h_s10, z9, rfl, hz_z9⟩
        rw [h_s10]
        rcases hz_z9 with ⟨c_z9, e_z9, m_z9⟩ | ⟨e_z9, m_z9⟩
        · rw [e_z9]
          show xe none 148 43 [(0, .ref 256), (1, vi a), (2, vi b)] [vi 1] s0 0 0 _
          refine x_if_eq k148_43 (t := 63) rfl ⟨by decide, by decide⟩ (fun c11 => by exfalso; omega) (fun c11 => ?_)
          refine x_A k148_46 (fun _ => rfl) ?_
          refine x_A k148_47 (fun _ => rfl) ?_
          refine x_ic_eq k148_48 (t := 67) rfl (by first | exact x_rb b_b rfl rfl | exact ⟨by omega, by omega⟩) ⟨by decide, by decide⟩ (fun c12 => ?_) (fun c12 => by exfalso; omega)
          refine x_A k148_67 (fun _ => rfl) ?_
          refine x_getR k148_68 (f := 3) rfl (q := 256) (n := 62) (kd := 15) ⟨by decide, rfl⟩ (q2 := 258) (by decide) rfl ?_
          refine x_A k148_71 (fun _ => rfl) ?_
          refine x_A k148_72 (fun _ => rfl) ?_
          refine x_getI k148_73 (f := 0) rfl (q := 256) (n := 62) (kd := 15) ⟨by decide, rfl⟩ (by decide) rfl ?_
          refine x_rw (e_z2.symm) ?_
          refine x_iast k148_76 (q := 258) (n := 40) ⟨by decide, rfl⟩ (by decide) (by first | exact x_rbl b_a rfl rfl | exact ⟨by omega, by omega⟩) ?_
          refine x_nh (fun s13 e_s13 => ?_)
          have hG_s13 : GI s13 := by rw [e_s13]; exact hG0.up (show (-1) ≤ z2 ∧ z2 ≤ 9 from (by first | exact x_rbe e_z2 g_z2 rfl rfl | exact x_rb g_z2 rfl rfl | exact ⟨by omega, by omega⟩))
          have f_s13 : FL [4224, 4288] s0 s13 := by rw [e_s13]; exact f0.up (show 4224 ∈ [4224, 4288] from by decide +kernel)
          have q14 : s13 256 1 = z1 := by rw [e_s13, x_up_q (by decide)]; exact e_z1.symm
          have q15 : s13 256 0 = z2 := by rw [e_s13, x_up_q (by decide)]; exact e_z2.symm
          have q16 : s13 258 a.toNat = z2 := by rw [e_s13]; exact x_up_same
          refine x_A k148_77 (fun _ => rfl) ?_
          refine x_getR k148_78 (f := 4) rfl (q := 256) (n := 62) (kd := 15) ⟨by decide, rfl⟩ (q2 := 259) (by decide) rfl ?_
          refine x_A k148_81 (fun _ => rfl) ?_
          refine x_A k148_82 (fun _ => rfl) ?_
          refine x_iast k148_83 (q := 259) (n := 40) ⟨by decide, rfl⟩ (by decide) (by first | exact x_rbl b_a rfl rfl | exact ⟨by omega, by omega⟩) ?_
          refine x_nh (fun s17 e_s17 => ?_)
          have hG_s17 : GI s17 := by rw [e_s17]; exact hG_s13.up (show (-1) ≤ b ∧ b ≤ 39 from (by first | exact x_rb b_b rfl rfl | exact ⟨by omega, by omega⟩))
          have f_s17 : FL [4224, 4288] s0 s17 := by rw [e_s17]; exact f_s13.up (show 4288 ∈ [4224, 4288] from by decide +kernel)
          have q18 : s17 256 1 = z1 := by rw [e_s17, x_up_q (by decide)]; exact q14
          have q19 : s17 256 0 = z2 := by rw [e_s17, x_up_q (by decide)]; exact q15
          have q20 : s17 258 a.toNat = z2 := by rw [e_s17, x_up_q (by first | decide | omega)]; exact q16
          have q21 : s17 259 a.toNat = b := by rw [e_s17]; exact x_up_same
          have J_e : J s17 := by rw [e_s17, e_s13]; exact J.end i0_J hG0 e_z2 ⟨by omega, by omega⟩ (by omega) (by omega)
          refine x_A k148_84 (fun _ => rfl) ?_
          refine x_A k148_85 (fun _ => rfl) ?_
          refine x_A k148_86 (fun _ => rfl) ?_
          refine x_getI k148_87 (f := 0) rfl (q := 256) (n := 62) (kd := 15) ⟨by decide, rfl⟩ (by decide) rfl ?_
          refine x_rw (q19) ?_
          refine x_callV k148_90 (y := 144) (n := 2) (w0 := 0) (w1 := 2) (as := [vi a, vi z2]) (rest := []) (by decide +kernel) (q := 256) (nq := 62) (kq := 15) ⟨by decide, rfl⟩ rfl rfl rfl rfl (xe_mono (C_X11_belowMany_256 s17 hG_s17 J_e a (by first | exact x_rb b_a rfl rfl | exact ⟨by omega, by omega⟩) z2 (by first | exact x_rbe e_z2 g_z2 rfl rfl | exact x_rb g_z2 rfl rfl | exact ⟨by omega, by omega⟩)) ?_)
          rintro s23 v ⟨-, t_s23, z22, rfl, g_z22⟩
          rw [t_s23.nil]
          show xe none 148 93 [(0, .ref 256), (1, vi a), (2, vi b)] [vi z22] s17 0 0 _
          refine x_A k148_93 (fun _ => rfl) ?_
          refine x_isub k148_94 ?_
          refine x_top (fun z24 e_z24 => ?_)
          exact x_iret k148_95 rfl ⟨hG_s17, f_s17, z24, rfl, (by first | exact x_rbe e_z24 g_z24 rfl rfl | exact x_rb g_z24 rfl rfl | exact ⟨by omega, by omega⟩), (by unfold EnR; exact Or.inr (Or.inr ⟨by omega, by omega, fun j => by rw [e_s17, x_up_q (by decide), e_s13, x_up_at, show z2 = s0 256 0 by omega]⟩)), J_e⟩
        · rw [e_z9]
          show xe none 148 43 [(0, .ref 256), (1, vi a), (2, vi b)] [vi 0] s0 0 0 _
          refine x_if_eq k148_43 (t := 63) rfl ⟨by decide, by decide⟩ (fun c25 => ?_) (fun c25 => by exfalso; omega)
          refine x_sipush k148_63 (by decide +kernel) ?_
          exact x_iret k148_66 rfl ⟨hG0, f0, (-1003), rfl, ⟨by decide, by decide⟩, (by unfold EnR; exact Or.inr (Or.inl ⟨by omega, by omega, rfl⟩)), i0_J⟩
    · skip
      refine x_A k148_13 (fun _ => rfl) ?_
      refine x_A k148_14 (fun _ => rfl) ?_
      refine x_callV k148_15 (y := 137) (n := 1) (w0 := 0) (w1 := 1) (as := [vi b]) (rest := []) (by decide +kernel) (q := 256) (nq := 62) (kq := 15) ⟨by decide, rfl⟩ rfl rfl rfl rfl (xe_mono (C_X11_isMark_256 s0 hG0 b (by first | exact x_rb b_b rfl rfl | exact ⟨by omega, by omega⟩)) ?_)
      rintro s27 v ⟨h_s27, z26, rfl, hz_z26⟩
      rw [h_s27]
      rcases hz_z26 with ⟨c_z26, e_z26⟩ | ⟨c_z26, e_z26⟩
      · rw [e_z26]
        show xe none 148 18 [(0, .ref 256), (1, vi a), (2, vi b)] [vi 1] s0 0 0 _
        refine x_if_ne k148_18 (t := 25) rfl ⟨by decide, by decide⟩ (fun c28 => ?_) (fun c28 => by exfalso; omega)
        refine x_A k148_25 (fun _ => rfl) ?_
        refine x_if_eq k148_26 (t := 63) rfl (by first | exact x_rb b_a rfl rfl | exact ⟨by omega, by omega⟩) (fun c29 => ?_) (fun c29 => ?_)
        · skip
          refine x_sipush k148_63 (by decide +kernel) ?_
          exact x_iret k148_66 rfl ⟨hG0, f0, (-1003), rfl, ⟨by decide, by decide⟩, (by unfold EnR; exact Or.inr (Or.inl ⟨by omega, by omega, rfl⟩)), i0_J⟩
        · skip
          refine x_A k148_29 (fun _ => rfl) ?_
          refine x_A k148_30 (fun _ => rfl) ?_
          refine x_ic_eq k148_31 (t := 63) rfl (by first | exact x_rb b_a rfl rfl | exact ⟨by omega, by omega⟩) (by first | exact x_rb b_b rfl rfl | exact ⟨by omega, by omega⟩) (fun c30 => ?_) (fun c30 => ?_)
          · skip
            refine x_sipush k148_63 (by decide +kernel) ?_
            exact x_iret k148_66 rfl ⟨hG0, f0, (-1003), rfl, ⟨by decide, by decide⟩, (by unfold EnR; exact Or.inr (Or.inl ⟨by omega, by omega, rfl⟩)), i0_J⟩
          · skip
            refine x_A k148_34 (fun _ => rfl) ?_
            refine x_A k148_35 (fun _ => rfl) ?_
            refine x_A k148_36 (fun _ => rfl) ?_
            refine x_getI k148_37 (f := 0) rfl (q := 256) (n := 62) (kd := 15) ⟨by decide, rfl⟩ (by decide) rfl ?_
            refine x_rw (e_z2.symm) ?_
            refine x_callV k148_40 (y := 142) (n := 2) (w0 := 0) (w1 := 2) (as := [vi a, vi z2]) (rest := []) (by decide +kernel) (q := 256) (nq := 62) (kq := 15) ⟨by decide, rfl⟩ rfl rfl rfl rfl (xe_mono (C_X11_isThere_256 s0 hG0 a (by first | exact x_rb b_a rfl rfl | exact ⟨by omega, by omega⟩) z2 (by first | exact x_rbe e_z2 g_z2 rfl rfl | exact x_rb g_z2 rfl rfl | exact ⟨by omega, by omega⟩)) ?_)
            rintro s32 v ⟨h_s32, z31, rfl, hz_z31⟩
            rw [h_s32]
            rcases hz_z31 with ⟨c_z31, e_z31, m_z31⟩ | ⟨e_z31, m_z31⟩
            · rw [e_z31]
              show xe none 148 43 [(0, .ref 256), (1, vi a), (2, vi b)] [vi 1] s0 0 0 _
              refine x_if_eq k148_43 (t := 63) rfl ⟨by decide, by decide⟩ (fun c33 => by exfalso; omega) (fun c33 => ?_)
              refine x_A k148_46 (fun _ => rfl) ?_
              refine x_A k148_47 (fun _ => rfl) ?_
              refine x_ic_eq k148_48 (t := 67) rfl (by first | exact x_rb b_b rfl rfl | exact ⟨by omega, by omega⟩) ⟨by decide, by decide⟩ (fun c34 => by exfalso; omega) (fun c34 => ?_)
              refine x_A k148_51 (fun _ => rfl) ?_
              refine x_A k148_52 (fun _ => rfl) ?_
              refine x_A k148_53 (fun _ => rfl) ?_
              refine x_getI k148_54 (f := 0) rfl (q := 256) (n := 62) (kd := 15) ⟨by decide, rfl⟩ (by decide) rfl ?_
              refine x_rw (e_z2.symm) ?_
              refine x_callV k148_57 (y := 142) (n := 2) (w0 := 0) (w1 := 2) (as := [vi b, vi z2]) (rest := []) (by decide +kernel) (q := 256) (nq := 62) (kq := 15) ⟨by decide, rfl⟩ rfl rfl rfl rfl (xe_mono (C_X11_isThere_256 s0 hG0 b (by first | exact x_rb b_b rfl rfl | exact ⟨by omega, by omega⟩) z2 (by first | exact x_rbe e_z2 g_z2 rfl rfl | exact x_rb g_z2 rfl rfl | exact ⟨by omega, by omega⟩)) ?_)
              rintro s36 v ⟨h_s36, z35, rfl, hz_z35⟩
              rw [h_s36]
              rcases hz_z35 with ⟨c_z35, e_z35, m_z35⟩ | ⟨e_z35, m_z35⟩
              · rw [e_z35]
                show xe none 148 60 [(0, .ref 256), (1, vi a), (2, vi b)] [vi 1] s0 0 0 _
                refine x_if_ne k148_60 (t := 67) rfl ⟨by decide, by decide⟩ (fun c37 => ?_) (fun c37 => by exfalso; omega)
                refine x_A k148_67 (fun _ => rfl) ?_
                refine x_getR k148_68 (f := 3) rfl (q := 256) (n := 62) (kd := 15) ⟨by decide, rfl⟩ (q2 := 258) (by decide) rfl ?_
                refine x_A k148_71 (fun _ => rfl) ?_
                refine x_A k148_72 (fun _ => rfl) ?_
                refine x_getI k148_73 (f := 0) rfl (q := 256) (n := 62) (kd := 15) ⟨by decide, rfl⟩ (by decide) rfl ?_
                refine x_rw (e_z2.symm) ?_
                refine x_iast k148_76 (q := 258) (n := 40) ⟨by decide, rfl⟩ (by decide) (by first | exact x_rbl b_a rfl rfl | exact ⟨by omega, by omega⟩) ?_
                refine x_nh (fun s38 e_s38 => ?_)
                have hG_s38 : GI s38 := by rw [e_s38]; exact hG0.up (show (-1) ≤ z2 ∧ z2 ≤ 9 from (by first | exact x_rbe e_z2 g_z2 rfl rfl | exact x_rb g_z2 rfl rfl | exact ⟨by omega, by omega⟩))
                have f_s38 : FL [4224, 4288] s0 s38 := by rw [e_s38]; exact f0.up (show 4224 ∈ [4224, 4288] from by decide +kernel)
                have q39 : s38 256 1 = z1 := by rw [e_s38, x_up_q (by decide)]; exact e_z1.symm
                have q40 : s38 256 0 = z2 := by rw [e_s38, x_up_q (by decide)]; exact e_z2.symm
                have q41 : s38 258 a.toNat = z2 := by rw [e_s38]; exact x_up_same
                refine x_A k148_77 (fun _ => rfl) ?_
                refine x_getR k148_78 (f := 4) rfl (q := 256) (n := 62) (kd := 15) ⟨by decide, rfl⟩ (q2 := 259) (by decide) rfl ?_
                refine x_A k148_81 (fun _ => rfl) ?_
                refine x_A k148_82 (fun _ => rfl) ?_
                refine x_iast k148_83 (q := 259) (n := 40) ⟨by decide, rfl⟩ (by decide) (by first | exact x_rbl b_a rfl rfl | exact ⟨by omega, by omega⟩) ?_
                refine x_nh (fun s42 e_s42 => ?_)
                have hG_s42 : GI s42 := by rw [e_s42]; exact hG_s38.up (show (-1) ≤ b ∧ b ≤ 39 from (by first | exact x_rb b_b rfl rfl | exact ⟨by omega, by omega⟩))
                have f_s42 : FL [4224, 4288] s0 s42 := by rw [e_s42]; exact f_s38.up (show 4288 ∈ [4224, 4288] from by decide +kernel)
                have q43 : s42 256 1 = z1 := by rw [e_s42, x_up_q (by decide)]; exact q39
                have q44 : s42 256 0 = z2 := by rw [e_s42, x_up_q (by decide)]; exact q40
                have q45 : s42 258 a.toNat = z2 := by rw [e_s42, x_up_q (by first | decide | omega)]; exact q41
                have q46 : s42 259 a.toNat = b := by rw [e_s42]; exact x_up_same
                have J_e : J s42 := by rw [e_s42, e_s38]; exact J.end i0_J hG0 e_z2 ⟨by omega, by omega⟩ (by omega) (by omega)
                refine x_A k148_84 (fun _ => rfl) ?_
                refine x_A k148_85 (fun _ => rfl) ?_
                refine x_A k148_86 (fun _ => rfl) ?_
                refine x_getI k148_87 (f := 0) rfl (q := 256) (n := 62) (kd := 15) ⟨by decide, rfl⟩ (by decide) rfl ?_
                refine x_rw (q44) ?_
                refine x_callV k148_90 (y := 144) (n := 2) (w0 := 0) (w1 := 2) (as := [vi a, vi z2]) (rest := []) (by decide +kernel) (q := 256) (nq := 62) (kq := 15) ⟨by decide, rfl⟩ rfl rfl rfl rfl (xe_mono (C_X11_belowMany_256 s42 hG_s42 J_e a (by first | exact x_rb b_a rfl rfl | exact ⟨by omega, by omega⟩) z2 (by first | exact x_rbe e_z2 g_z2 rfl rfl | exact x_rb g_z2 rfl rfl | exact ⟨by omega, by omega⟩)) ?_)
                rintro s48 v ⟨-, t_s48, z47, rfl, g_z47⟩
                rw [t_s48.nil]
                show xe none 148 93 [(0, .ref 256), (1, vi a), (2, vi b)] [vi z47] s42 0 0 _
                refine x_A k148_93 (fun _ => rfl) ?_
                refine x_isub k148_94 ?_
                refine x_top (fun z49 e_z49 => ?_)
                exact x_iret k148_95 rfl ⟨hG_s42, f_s42, z49, rfl, (by first | exact x_rbe e_z49 g_z49 rfl rfl | exact x_rb g_z49 rfl rfl | exact ⟨by omega, by omega⟩), (by unfold EnR; exact Or.inr (Or.inr ⟨by omega, by omega, fun j => by rw [e_s42, x_up_q (by decide), e_s38, x_up_at, show z2 = s0 256 0 by omega]⟩)), J_e⟩
              · rw [e_z35]
                show xe none 148 60 [(0, .ref 256), (1, vi a), (2, vi b)] [vi 0] s0 0 0 _
                refine x_if_ne k148_60 (t := 67) rfl ⟨by decide, by decide⟩ (fun c50 => by exfalso; omega) (fun c50 => ?_)
                refine x_sipush k148_63 (by decide +kernel) ?_
                exact x_iret k148_66 rfl ⟨hG0, f0, (-1003), rfl, ⟨by decide, by decide⟩, (by unfold EnR; exact Or.inr (Or.inl ⟨by omega, by omega, rfl⟩)), i0_J⟩
            · rw [e_z31]
              show xe none 148 43 [(0, .ref 256), (1, vi a), (2, vi b)] [vi 0] s0 0 0 _
              refine x_if_eq k148_43 (t := 63) rfl ⟨by decide, by decide⟩ (fun c51 => ?_) (fun c51 => by exfalso; omega)
              refine x_sipush k148_63 (by decide +kernel) ?_
              exact x_iret k148_66 rfl ⟨hG0, f0, (-1003), rfl, ⟨by decide, by decide⟩, (by unfold EnR; exact Or.inr (Or.inl ⟨by omega, by omega, rfl⟩)), i0_J⟩
      · rw [e_z26]
        show xe none 148 18 [(0, .ref 256), (1, vi a), (2, vi b)] [vi 0] s0 0 0 _
        refine x_if_ne k148_18 (t := 25) rfl ⟨by decide, by decide⟩ (fun c52 => by exfalso; omega) (fun c52 => ?_)
        refine x_sipush k148_21 (by decide +kernel) ?_
        exact x_iret k148_24 rfl ⟨hG0, f0, (-1001), rfl, ⟨by decide, by decide⟩, (by unfold EnR; exact Or.inl ⟨by omega, rfl⟩), i0_J⟩
  · rw [e_z3]
    show xe none 148 5 [(0, .ref 256), (1, vi a), (2, vi b)] [vi 0] s0 0 0 _
    refine x_if_eq k148_5 (t := 21) rfl ⟨by decide, by decide⟩ (fun c53 => ?_) (fun c53 => by exfalso; omega)
    refine x_sipush k148_21 (by decide +kernel) ?_
    exact x_iret k148_24 rfl ⟨hG0, f0, (-1001), rfl, ⟨by decide, by decide⟩, (by unfold EnR; exact Or.inl ⟨by omega, rfl⟩), i0_J⟩
