theorem E_X7_isEnded_1 (s0 : xS) (hG0 : GI s0) (a : Int) (b_a : (-2147483648) ≤ a ∧ a ≤ 2147483647) (b : Int) (b_b : (-2147483648) ≤ b ∧ b ≤ 2147483647) : xe none 63 0 (lv_args 0 [.ref 1, vi a, vi b]) [] s0 0 0 (fun s' v => s' = s0 ∧ ∃ z, v = some (vi z) ∧ (((a ≥ 0 ∧ a < s0 1 4) ∧ z = 1 ∧ (s0 3 a.toNat ≠ -1 ∧ s0 3 a.toNat ≤ b)) ∨ (z = 0 ∧ ¬ (0 ≤ a ∧ a < s0 1 4 ∧ (s0 3 a.toNat ≠ -1 ∧ s0 3 a.toNat ≤ b))))) := by
  have f0 : FL [] s0 s0 := FL.rf
  show xe none 63 0 [(0, .ref 1), (1, vi a), (2, vi b)] [] s0 0 0 _
  refine x_A k63_0 (fun _ => rfl) ?_
  refine x_A k63_1 (fun _ => rfl) ?_
  obtain ⟨z1, e_z1⟩ : ∃ z, z = s0 1 4 := ⟨_, rfl⟩
  have g_z1 : (1 : Int) ≤ s0 1 4 ∧ s0 1 4 ≤ 40 := hG0 1 4
  refine x_callV k63_2 (y := 59) (n := 1) (w0 := 0) (w1 := 1) (as := [vi a]) (rest := []) (by decide +kernel) (q := 1) (nq := 5) (kq := 4) ⟨by decide, rfl⟩ rfl rfl rfl rfl (xe_mono (C_X7_has_1 s0 hG0 a ⟨by omega, by omega⟩) ?_)
  rintro s3 v ⟨h_s3, z2, rfl, hz_z2⟩
  rw [h_s3]
  rcases hz_z2 with ⟨c_z2, e_z2⟩ | ⟨c_z2, e_z2⟩
  · rw [e_z2]
    show xe none 63 5 [(0, .ref 1), (1, vi a), (2, vi b)] [vi 1] s0 0 0 _
    refine x_if_eq k63_5 (t := 32) rfl ⟨by omega, by omega⟩ (fun c4 => by exfalso; omega) (fun c4 => ?_)
    refine x_A k63_8 (fun _ => rfl) ?_
    refine x_getR k63_9 (f := 1) rfl (q := 1) (n := 5) (kd := 4) ⟨by decide, rfl⟩ (q2 := 3) (by decide) rfl ?_
    refine x_A k63_12 (fun _ => rfl) ?_
    refine x_iald k63_13 (q := 3) (n := 40) ⟨by decide, rfl⟩ (by decide) ⟨by omega, by omega⟩ ?_
    refine x_top (fun z5 e_z5 => ?_)
    have g_z5 : (-1) ≤ s0 3 a.toNat ∧ s0 3 a.toNat ≤ 9 := hG0 3 a.toNat
    refine x_A k63_14 (fun _ => rfl) ?_
    refine x_ic_eq k63_15 (t := 32) rfl ⟨by omega, by omega⟩ ⟨by omega, by omega⟩ (fun c6 => ?_) (fun c6 => ?_)
    · skip
      refine x_A k63_32 (fun _ => rfl) ?_
      exact x_zret k63_33 rfl ⟨by omega, by omega⟩ ⟨rfl, 0, rfl, by omega⟩
    · skip
      refine x_A k63_18 (fun _ => rfl) ?_
      refine x_getR k63_19 (f := 1) rfl (q := 1) (n := 5) (kd := 4) ⟨by decide, rfl⟩ (q2 := 3) (by decide) rfl ?_
      refine x_A k63_22 (fun _ => rfl) ?_
      refine x_iald k63_23 (q := 3) (n := 40) ⟨by decide, rfl⟩ (by decide) ⟨by omega, by omega⟩ ?_
      refine x_rw (e_z5.symm) ?_
      refine x_A k63_24 (fun _ => rfl) ?_
      refine x_ic_gt k63_25 (t := 32) rfl ⟨by omega, by omega⟩ ⟨by omega, by omega⟩ (fun c7 => ?_) (fun c7 => ?_)
      · skip
        refine x_A k63_32 (fun _ => rfl) ?_
        exact x_zret k63_33 rfl ⟨by omega, by omega⟩ ⟨rfl, 0, rfl, by omega⟩
      · skip
        refine x_A k63_28 (fun _ => rfl) ?_
        refine x_goto k63_29 (t := 33) rfl ?_
        exact x_zret k63_33 rfl ⟨by omega, by omega⟩ ⟨rfl, 1, rfl, by omega⟩
  · rw [e_z2]
    show xe none 63 5 [(0, .ref 1), (1, vi a), (2, vi b)] [vi 0] s0 0 0 _
    refine x_if_eq k63_5 (t := 32) rfl ⟨by omega, by omega⟩ (fun c8 => ?_) (fun c8 => by exfalso; omega)
    refine x_A k63_32 (fun _ => rfl) ?_
    exact x_zret k63_33 rfl ⟨by omega, by omega⟩ ⟨rfl, 0, rfl, by omega⟩
theorem E_X7_isThere_1 (s0 : xS) (hG0 : GI s0) (a : Int) (b_a : (-2147483648) ≤ a ∧ a ≤ 2147483647) (b : Int) (b_b : (-2147483648) ≤ b ∧ b ≤ 2147483647) : xe none 64 0 (lv_args 0 [.ref 1, vi a, vi b]) [] s0 0 0 (fun s' v => s' = s0 ∧ ∃ z, v = some (vi z) ∧ (((a ≥ 0 ∧ a < s0 1 4) ∧ z = 1 ∧ (s0 2 a.toNat ≤ b ∧ ¬ (s0 3 a.toNat ≠ -1 ∧ s0 3 a.toNat ≤ b))) ∨ (z = 0 ∧ ¬ (0 ≤ a ∧ a < s0 1 4 ∧ (s0 2 a.toNat ≤ b ∧ ¬ (s0 3 a.toNat ≠ -1 ∧ s0 3 a.toNat ≤ b)))))) := by
  have f0 : FL [] s0 s0 := FL.rf
  show xe none 64 0 [(0, .ref 1), (1, vi a), (2, vi b)] [] s0 0 0 _
  refine x_A k64_0 (fun _ => rfl) ?_
  refine x_A k64_1 (fun _ => rfl) ?_
  obtain ⟨z1, e_z1⟩ : ∃ z, z = s0 1 4 := ⟨_, rfl⟩
  have g_z1 : (1 : Int) ≤ s0 1 4 ∧ s0 1 4 ≤ 40 := hG0 1 4
  refine x_callV k64_2 (y := 59) (n := 1) (w0 := 0) (w1 := 1) (as := [vi a]) (rest := []) (by decide +kernel) (q := 1) (nq := 5) (kq := 4) ⟨by decide, rfl⟩ rfl rfl rfl rfl (xe_mono (C_X7_has_1 s0 hG0 a ⟨by omega, by omega⟩) ?_)
  rintro s3 v ⟨h_s3, z2, rfl, hz_z2⟩
  rw [h_s3]
  rcases hz_z2 with ⟨c_z2, e_z2⟩ | ⟨c_z2, e_z2⟩
  · rw [e_z2]
    show xe none 64 5 [(0, .ref 1), (1, vi a), (2, vi b)] [vi 1] s0 0 0 _
    refine x_if_eq k64_5 (t := 31) rfl ⟨by omega, by omega⟩ (fun c4 => by exfalso; omega) (fun c4 => ?_)
    refine x_A k64_8 (fun _ => rfl) ?_
    refine x_getR k64_9 (f := 0) rfl (q := 1) (n := 5) (kd := 4) ⟨by decide, rfl⟩ (q2 := 2) (by decide) rfl ?_
    refine x_A k64_12 (fun _ => rfl) ?_
    refine x_iald k64_13 (q := 2) (n := 40) ⟨by decide, rfl⟩ (by decide) ⟨by omega, by omega⟩ ?_
    refine x_top (fun z5 e_z5 => ?_)
    have g_z5 : (0 : Int) ≤ s0 2 a.toNat ∧ s0 2 a.toNat ≤ 9 := hG0 2 a.toNat
    refine x_A k64_14 (fun _ => rfl) ?_
    refine x_ic_gt k64_15 (t := 31) rfl ⟨by omega, by omega⟩ ⟨by omega, by omega⟩ (fun c6 => ?_) (fun c6 => ?_)
    · skip
      refine x_A k64_31 (fun _ => rfl) ?_
      exact x_zret k64_32 rfl ⟨by omega, by omega⟩ ⟨rfl, 0, rfl, by omega⟩
    · skip
      refine x_A k64_18 (fun _ => rfl) ?_
      refine x_A k64_19 (fun _ => rfl) ?_
      refine x_A k64_20 (fun _ => rfl) ?_
      refine x_callV k64_21 (y := 63) (n := 2) (w0 := 0) (w1 := 2) (as := [vi a, vi b]) (rest := []) (by decide +kernel) (q := 1) (nq := 5) (kq := 4) ⟨by decide, rfl⟩ rfl rfl rfl rfl (xe_mono (E_X7_isEnded_1 s0 hG0 a ⟨by omega, by omega⟩ b ⟨by omega, by omega⟩) ?_)
      rintro s8 v ⟨h_s8, z7, rfl, hz_z7⟩
      rw [h_s8]
      rcases hz_z7 with ⟨c_z7, e_z7, m_z7⟩ | ⟨e_z7, m_z7⟩
      · rw [e_z7]
        show xe none 64 24 [(0, .ref 1), (1, vi a), (2, vi b)] [vi 1] s0 0 0 _
        refine x_if_ne k64_24 (t := 31) rfl ⟨by omega, by omega⟩ (fun c9 => ?_) (fun c9 => by exfalso; omega)
        refine x_A k64_31 (fun _ => rfl) ?_
        exact x_zret k64_32 rfl ⟨by omega, by omega⟩ ⟨rfl, 0, rfl, by omega⟩
      · rw [e_z7]
        show xe none 64 24 [(0, .ref 1), (1, vi a), (2, vi b)] [vi 0] s0 0 0 _
        refine x_if_ne k64_24 (t := 31) rfl ⟨by omega, by omega⟩ (fun c10 => by exfalso; omega) (fun c10 => ?_)
        refine x_A k64_27 (fun _ => rfl) ?_
        refine x_goto k64_28 (t := 32) rfl ?_
        exact x_zret k64_32 rfl ⟨by omega, by omega⟩ ⟨rfl, 1, rfl, by omega⟩
  · rw [e_z2]
    show xe none 64 5 [(0, .ref 1), (1, vi a), (2, vi b)] [vi 0] s0 0 0 _
    refine x_if_eq k64_5 (t := 31) rfl ⟨by omega, by omega⟩ (fun c11 => ?_) (fun c11 => by exfalso; omega)
    refine x_A k64_31 (fun _ => rfl) ?_
    exact x_zret k64_32 rfl ⟨by omega, by omega⟩ ⟨rfl, 0, rfl, by omega⟩
theorem E_X7_add_1 (s0 : xS) (hG0 : GI s0) (a : Int) (b_a : (-1) ≤ a ∧ a ≤ 39) (b : Int) (b_b : 0 ≤ b ∧ b ≤ 9) : xe none 60 0 (lv_args 0 [.ref 1, vi a, vi b]) [] s0 0 0 (fun s' v => GI s' ∧ FL [69, 128, 384] s0 s' ∧ ∃ z, v = some (vi z) ∧ ((-1004) ≤ z ∧ z ≤ 39) ∧ ((40 ≤ s0 1 4 ∧ z = -1004 ∧ s' 1 4 = s0 1 4 ∧ s' 2 = s0 2) ∨ (s0 1 4 < 40 ∧ z = s0 1 4 ∧ s' 1 4 = s0 1 4 + 1 ∧ ∀ j, s' 2 j = if j = (s0 1 4).toNat then b else s0 2 j))) := by
  have f0 : FL [69, 128, 384] s0 s0 := FL.rf
  show xe none 60 0 [(0, .ref 1), (1, vi a), (2, vi b)] [] s0 0 0 _
  refine x_A k60_0 (fun _ => rfl) ?_
  refine x_getI k60_1 (f := 4) rfl (q := 1) (n := 5) (kd := 4) ⟨by decide, rfl⟩ (by decide) rfl ?_
  refine x_top (fun z1 e_z1 => ?_)
  have g_z1 : (1 : Int) ≤ s0 1 4 ∧ s0 1 4 ≤ 40 := hG0 1 4
  refine x_istore_n k60_4 (ls' := [(3, vi z1), (0, .ref 1), (1, vi a), (2, vi b)]) (by decide) rfl ?_
  refine x_A k60_5 (fun _ => rfl) ?_
  refine x_bipush k60_6 (by decide +kernel) ?_
  refine x_ic_lt k60_8 (t := 15) rfl ⟨by omega, by omega⟩ ⟨by omega, by omega⟩ (fun c2 => ?_) (fun c2 => ?_)
  · skip
    refine x_A k60_15 (fun _ => rfl) ?_
    refine x_getR k60_16 (f := 0) rfl (q := 1) (n := 5) (kd := 4) ⟨by decide, rfl⟩ (q2 := 2) (by decide) rfl ?_
    refine x_A k60_19 (fun _ => rfl) ?_
    refine x_A k60_20 (fun _ => rfl) ?_
    refine x_iast k60_21 (q := 2) (n := 40) ⟨by decide, rfl⟩ (by decide) ⟨by omega, by omega⟩ ?_
    refine x_nh (fun s3 e_s3 => ?_)
    have hG_s3 : GI s3 := by rw [e_s3]; exact hG0.up (show 0 ≤ b ∧ b ≤ 9 from ⟨by omega, by omega⟩)
    have f_s3 : FL [69, 128, 384] s0 s3 := by rw [e_s3]; exact f0.up (show 128 ∈ [69, 128, 384] from by decide)
    have q4 : s3 1 4 = z1 := by rw [e_s3, x_up_q (by decide)]; exact e_z1.symm
    have q5 : s3 2 z1.toNat = b := by rw [e_s3]; exact x_up_same
    refine x_A k60_22 (fun _ => rfl) ?_
    refine x_A k60_23 (fun _ => rfl) ?_
    refine x_getI k60_24 (f := 4) rfl (q := 1) (n := 5) (kd := 4) ⟨by decide, rfl⟩ (by decide) rfl ?_
    refine x_rw (q4) ?_
    refine x_A k60_27 (fun _ => rfl) ?_
    refine x_iadd k60_28 ?_
    refine x_top (fun z6 e_z6 => ?_)
    refine x_putI k60_29 (f := 4) rfl (q := 1) (n := 5) (kd := 4) ⟨by decide, rfl⟩ rfl rfl rfl ?_
    refine x_nh (fun s7 e_s7 => ?_)
    have hG_s7 : GI s7 := by rw [e_s7]; exact hG_s3.up (show 1 ≤ z6 ∧ z6 ≤ 40 from ⟨by omega, by omega⟩)
    have f_s7 : FL [69, 128, 384] s0 s7 := by rw [e_s7]; exact f_s3.up (show 69 ∈ [69, 128, 384] from by decide)
    have q8 : s7 1 4 = z6 := by rw [e_s7]; exact x_up_same
    have q9 : s7 2 z1.toNat = b := by rw [e_s7, x_up_q (by omega)]; exact q5
    refine x_A k60_32 (fun _ => rfl) ?_
    refine x_A k60_33 (fun _ => rfl) ?_
    refine x_A k60_34 (fun _ => rfl) ?_
    refine x_A k60_35 (fun _ => rfl) ?_
    refine x_callV k60_36 (y := 61) (n := 3) (w0 := 0) (w1 := 3) (as := [vi z1, vi a, vi b]) (rest := []) (by decide +kernel) (q := 1) (nq := 5) (kq := 4) ⟨by decide, rfl⟩ rfl rfl rfl rfl (xe_mono (C_X7_setParent_1 s7 hG_s7 z1 ⟨by omega, by omega⟩ a ⟨by omega, by omega⟩ b ⟨by omega, by omega⟩) ?_)
    rintro s11 v ⟨hG_s11, t_s11, rfl⟩
    have f_s11 : FL [69, 128, 384] s0 s11 := f_s7.tr t_s11 (by decide)
    have q12 : s11 1 4 = z6 := (t_s11 1 4 (show 69 ∉ [384] from by decide)).trans q8
    have q13 : s11 2 z1.toNat = b := (t_s11 2 z1.toNat (show 128 ∉ [384] from by decide)).trans q9
    show xe none 60 39 [(3, vi z1), (0, .ref 1), (1, vi a), (2, vi b)] [] s11 0 0 _
    refine x_A k60_39 (fun _ => rfl) ?_
    exact x_iret k60_40 rfl ⟨hG_s11, f_s11, z1, rfl, ⟨by omega, by omega⟩, Or.inr ⟨by omega, by omega, by omega, fun j => by rw [t_s11 2 j (show 128 ∉ _ from by decide), e_s7, x_up_q (by decide), e_s3, x_up_at, show z1 = s0 1 4 by omega]⟩⟩
  · skip
    refine x_sipush k60_11 (by decide +kernel) ?_
    exact x_iret k60_14 rfl ⟨hG0, f0, (-1004), rfl, ⟨by omega, by omega⟩, Or.inl ⟨by omega, rfl, rfl, rfl⟩⟩
theorem E_X10_mark_0 (s0 : xS) (hG0 : GI s0) (a : Int) (b_a : (-2147483648) ≤ a ∧ a ≤ 2147483647) (p_1_4 : 1 ≤ s0 1 4 ∧ s0 1 4 ≤ 40) (p_0_10 : 0 ≤ s0 0 10 ∧ s0 0 10 ≤ 9) : xe none 92 0 (lv_args 0 [.ref 0, vi a]) [] s0 0 0 (fun s' v => GI s' ∧ FL [69, 128, 384, 3276, 3277] s0 s' ∧ ∃ z, v = some (vi z) ∧ ((-1004) ≤ z ∧ z ≤ 39) ∧ (MkC s0 s' a z)) := by
  have f0 : FL [69, 128, 384, 3276, 3277] s0 s0 := FL.rf
  show xe none 92 0 [(0, .ref 0), (1, vi a)] [] s0 0 0 _
  obtain ⟨z1, e_z1⟩ : ∃ z, z = s0 1 4 := ⟨_, rfl⟩
  have g_z1 : (1 : Int) ≤ s0 1 4 ∧ s0 1 4 ≤ 40 := hG0 1 4
  obtain ⟨z2, e_z2⟩ : ∃ z, z = s0 0 10 := ⟨_, rfl⟩
  have g_z2 : (0 : Int) ≤ s0 0 10 ∧ s0 0 10 ≤ 9 := hG0 0 10
  refine x_A k92_0 (fun _ => rfl) ?_
  refine x_getR k92_1 (f := 0) rfl (q := 0) (n := 12) (kd := 3) ⟨by decide, rfl⟩ (q2 := 1) (by decide) rfl ?_
  refine x_A k92_4 (fun _ => rfl) ?_
  refine x_callV k92_5 (y := 59) (n := 1) (w0 := 0) (w1 := 1) (as := [vi a]) (rest := []) (by decide +kernel) (q := 1) (nq := 5) (kq := 4) ⟨by decide, rfl⟩ rfl rfl rfl rfl (xe_mono (C_X7_has_1 s0 hG0 a ⟨by omega, by omega⟩) ?_)
  rintro s4 v ⟨h_s4, z3, rfl, hz_z3⟩
  rw [h_s4]
  rcases hz_z3 with ⟨c_z3, e_z3⟩ | ⟨c_z3, e_z3⟩
  · rw [e_z3]
    show xe none 92 8 [(0, .ref 0), (1, vi a)] [vi 1] s0 0 0 _
    refine x_if_ne k92_8 (t := 15) rfl ⟨by omega, by omega⟩ (fun c5 => ?_) (fun c5 => by exfalso; omega)
    refine x_A k92_15 (fun _ => rfl) ?_
    refine x_getR k92_16 (f := 0) rfl (q := 0) (n := 12) (kd := 3) ⟨by decide, rfl⟩ (q2 := 1) (by decide) rfl ?_
    refine x_A k92_19 (fun _ => rfl) ?_
    refine x_A k92_20 (fun _ => rfl) ?_
    refine x_getI k92_21 (f := 10) rfl (q := 0) (n := 12) (kd := 3) ⟨by decide, rfl⟩ (by decide) rfl ?_
    refine x_rw (e_z2.symm) ?_
    refine x_callV k92_24 (y := 64) (n := 2) (w0 := 0) (w1 := 2) (as := [vi a, vi z2]) (rest := []) (by decide +kernel) (q := 1) (nq := 5) (kq := 4) ⟨by decide, rfl⟩ rfl rfl rfl rfl (xe_mono (E_X7_isThere_1 s0 hG0 a ⟨by omega, by omega⟩ z2 ⟨by omega, by omega⟩) ?_)
    rintro s7 v ⟨h_s7, z6, rfl, hz_z6⟩
    rw [h_s7]
    rcases hz_z6 with ⟨c_z6, e_z6, m_z6⟩ | ⟨e_z6, m_z6⟩
    · rw [e_z6]
      show xe none 92 27 [(0, .ref 0), (1, vi a)] [vi 1] s0 0 0 _
      refine x_if_ne k92_27 (t := 34) rfl ⟨by omega, by omega⟩ (fun c8 => ?_) (fun c8 => by exfalso; omega)
      refine x_A k92_34 (fun _ => rfl) ?_
      refine x_getR k92_35 (f := 9) rfl (q := 0) (n := 12) (kd := 3) ⟨by decide, rfl⟩ (q2 := 243) (by decide) rfl ?_
      refine x_callV k92_38 (y := 73) (n := 0) (w0 := 0) (w1 := 0) (as := []) (rest := []) (by decide +kernel) (q := 243) (nq := 13) (kq := 13) ⟨by decide, rfl⟩ rfl rfl rfl rfl (xe_mono (C_X8_forget_243 s0 hG0) ?_)
      rintro s10 v ⟨hG_s10, t_s10, rfl⟩
      have f_s10 : FL [69, 128, 384, 3276, 3277] s0 s10 := f0.tr t_s10 (by decide)
      have q11 : s10 1 4 = z1 := (t_s10 1 4 (show 69 ∉ [3276, 3277] from by decide)).trans e_z1.symm
      have q12 : s10 0 10 = z2 := (t_s10 0 10 (show 11 ∉ [3276, 3277] from by decide)).trans e_z2.symm
      show xe none 92 41 [(0, .ref 0), (1, vi a)] [] s10 0 0 _
      refine x_A k92_41 (fun _ => rfl) ?_
      refine x_getR k92_42 (f := 0) rfl (q := 0) (n := 12) (kd := 3) ⟨by decide, rfl⟩ (q2 := 1) (by decide) rfl ?_
      refine x_A k92_45 (fun _ => rfl) ?_
      refine x_A k92_46 (fun _ => rfl) ?_
      refine x_getI k92_47 (f := 10) rfl (q := 0) (n := 12) (kd := 3) ⟨by decide, rfl⟩ (by decide) rfl ?_
      refine x_rw (q12) ?_
      refine x_callV k92_50 (y := 60) (n := 2) (w0 := 0) (w1 := 2) (as := [vi a, vi z2]) (rest := []) (by decide +kernel) (q := 1) (nq := 5) (kq := 4) ⟨by decide, rfl⟩ rfl rfl rfl rfl (xe_mono (E_X7_add_1 s10 hG_s10 a ⟨by omega, by omega⟩ z2 ⟨by omega, by omega⟩) ?_)
      rintro s14 v ⟨hG_s14, t_s14, z13, rfl, g_z13, xp_z13⟩
      have f_s14 : FL [69, 128, 384, 3276, 3277] s0 s14 := f_s10.tr t_s14 (by decide)
      have q15 : s14 0 10 = z2 := (t_s14 0 10 (show 11 ∉ [69, 128, 384] from by decide)).trans q12
      obtain ⟨z16, e_z16⟩ : ∃ z, z = s14 1 4 := ⟨_, rfl⟩
      have g_z16 : (1 : Int) ≤ s14 1 4 ∧ s14 1 4 ≤ 40 := hG_s14 1 4
      show xe none 92 53 [(0, .ref 0), (1, vi a)] [vi z13] s14 0 0 _
      have F2 : s10 2 = s0 2 := funext fun i => t_s10 2 i (show 128 ∉ _ from by decide)
      exact x_iret k92_53 rfl ⟨hG_s14, f_s14, z13, rfl, ⟨by omega, by omega⟩, (by unfold MkC; exact xp_z13.elim (fun ⟨u1, u2, u3, u4⟩ => Or.inr (Or.inr (Or.inl ⟨by omega, by omega, by omega, by omega, by omega, u4.trans F2⟩))) (fun ⟨u1, u2, u3, u4⟩ => Or.inr (Or.inr (Or.inr ⟨by omega, by omega, by omega, by omega, by omega, fun j => by rw [u4, show s10 1 4 = s0 1 4 by omega, show z2 = s0 0 10 by omega, F2]⟩))))⟩
    · rw [e_z6]
      show xe none 92 27 [(0, .ref 0), (1, vi a)] [vi 0] s0 0 0 _
      refine x_if_ne k92_27 (t := 34) rfl ⟨by omega, by omega⟩ (fun c17 => by exfalso; omega) (fun c17 => ?_)
      refine x_sipush k92_30 (by decide +kernel) ?_
      exact x_iret k92_33 rfl ⟨hG0, f0, (-1003), rfl, ⟨by omega, by omega⟩, (by unfold MkC; exact Or.inr (Or.inl ⟨by omega, by omega, rfl, rfl, rfl⟩))⟩
  · rw [e_z3]
    show xe none 92 8 [(0, .ref 0), (1, vi a)] [vi 0] s0 0 0 _
    refine x_if_ne k92_8 (t := 15) rfl ⟨by omega, by omega⟩ (fun c18 => by exfalso; omega) (fun c18 => ?_)
    refine x_sipush k92_11 (by decide +kernel) ?_
    exact x_iret k92_14 rfl ⟨hG0, f0, (-1001), rfl, ⟨by omega, by omega⟩, (by unfold MkC; exact Or.inl ⟨by omega, rfl, rfl, rfl⟩)⟩
theorem E_X11_tell_256 (s0 : xS) (hG0 : GI s0) (a : Int) (b_a : (-1) ≤ a ∧ a ≤ 39) (p_256_1 : 1 ≤ s0 256 1 ∧ s0 256 1 ≤ 39) (pa : 0 ≤ a ∧ a < s0 256 1) (i0_J : J s0) : xe none 139 0 (lv_args 0 [.ref 256, vi a]) [] s0 0 0 (fun s' v => GI s' ∧ FL [4098, 4160, 4224, 4288, 4352] s0 s' ∧ v = none ∧ (s' 256 1 = s0 256 1 + 1 ∧ (∀ j, s' 257 j = if j = (s0 256 1).toNat then s0 256 0 else s0 257 j) ∧ (∀ j, s' 258 j = if j = (s0 256 1).toNat then -1 else s0 258 j)) ∧ J s') := by
  have f0 : FL [4098, 4160, 4224, 4288, 4352] s0 s0 := FL.rf
  show xe none 139 0 [(0, .ref 256), (1, vi a)] [] s0 0 0 _
  obtain ⟨z1, e_z1⟩ : ∃ z, z = s0 256 1 := ⟨_, rfl⟩
  have g_z1 : (1 : Int) ≤ s0 256 1 ∧ s0 256 1 ≤ 40 := hG0 256 1
  refine x_A k139_0 (fun _ => rfl) ?_
  refine x_getR k139_1 (f := 2) rfl (q := 256) (n := 62) (kd := 15) ⟨by decide, rfl⟩ (q2 := 257) (by decide) rfl ?_
  refine x_A k139_4 (fun _ => rfl) ?_
  refine x_getI k139_5 (f := 1) rfl (q := 256) (n := 62) (kd := 15) ⟨by decide, rfl⟩ (by decide) rfl ?_
  refine x_rw (e_z1.symm) ?_
  refine x_A k139_8 (fun _ => rfl) ?_
  refine x_getI k139_9 (f := 0) rfl (q := 256) (n := 62) (kd := 15) ⟨by decide, rfl⟩ (by decide) rfl ?_
  refine x_top (fun z2 e_z2 => ?_)
  have g_z2 : (0 : Int) ≤ s0 256 0 ∧ s0 256 0 ≤ 9 := hG0 256 0
  refine x_iast k139_12 (q := 257) (n := 40) ⟨by decide, rfl⟩ (by decide) ⟨by omega, by omega⟩ ?_
  refine x_nh (fun s3 e_s3 => ?_)
  have hG_s3 : GI s3 := by rw [e_s3]; exact hG0.up (show 0 ≤ z2 ∧ z2 ≤ 9 from ⟨by omega, by omega⟩)
  have f_s3 : FL [4098, 4160, 4224, 4288, 4352] s0 s3 := by rw [e_s3]; exact f0.up (show 4160 ∈ [4098, 4160, 4224, 4288, 4352] from by decide)
  have q4 : s3 256 1 = z1 := by rw [e_s3, x_up_q (by decide)]; exact e_z1.symm
  have q5 : s3 256 0 = z2 := by rw [e_s3, x_up_q (by decide)]; exact e_z2.symm
  have q6 : s3 257 z1.toNat = z2 := by rw [e_s3]; exact x_up_same
  refine x_A k139_13 (fun _ => rfl) ?_
  refine x_getR k139_14 (f := 3) rfl (q := 256) (n := 62) (kd := 15) ⟨by decide, rfl⟩ (q2 := 258) (by decide) rfl ?_
  refine x_A k139_17 (fun _ => rfl) ?_
  refine x_getI k139_18 (f := 1) rfl (q := 256) (n := 62) (kd := 15) ⟨by decide, rfl⟩ (by decide) rfl ?_
  refine x_rw (q4) ?_
  refine x_A k139_21 (fun _ => rfl) ?_
  refine x_iast k139_22 (q := 258) (n := 40) ⟨by decide, rfl⟩ (by decide) ⟨by omega, by omega⟩ ?_
  refine x_nh (fun s7 e_s7 => ?_)
  have hG_s7 : GI s7 := by rw [e_s7]; exact hG_s3.up (show (-1) ≤ (-1) ∧ (-1) ≤ 9 from ⟨by omega, by omega⟩)
  have f_s7 : FL [4098, 4160, 4224, 4288, 4352] s0 s7 := by rw [e_s7]; exact f_s3.up (show 4224 ∈ [4098, 4160, 4224, 4288, 4352] from by decide)
  have q8 : s7 256 1 = z1 := by rw [e_s7, x_up_q (by decide)]; exact q4
  have q9 : s7 256 0 = z2 := by rw [e_s7, x_up_q (by decide)]; exact q5
  have q10 : s7 257 z1.toNat = z2 := by rw [e_s7, x_up_q (by omega)]; exact q6
  have q11 : s7 258 z1.toNat = (-1) := by rw [e_s7]; exact x_up_same
  refine x_A k139_23 (fun _ => rfl) ?_
  refine x_getR k139_24 (f := 4) rfl (q := 256) (n := 62) (kd := 15) ⟨by decide, rfl⟩ (q2 := 259) (by decide) rfl ?_
  refine x_A k139_27 (fun _ => rfl) ?_
  refine x_getI k139_28 (f := 1) rfl (q := 256) (n := 62) (kd := 15) ⟨by decide, rfl⟩ (by decide) rfl ?_
  refine x_rw (q8) ?_
  refine x_A k139_31 (fun _ => rfl) ?_
  refine x_iast k139_32 (q := 259) (n := 40) ⟨by decide, rfl⟩ (by decide) ⟨by omega, by omega⟩ ?_
  refine x_nh (fun s12 e_s12 => ?_)
  have hG_s12 : GI s12 := by rw [e_s12]; exact hG_s7.up (show (-1) ≤ (-1) ∧ (-1) ≤ 39 from ⟨by omega, by omega⟩)
  have f_s12 : FL [4098, 4160, 4224, 4288, 4352] s0 s12 := by rw [e_s12]; exact f_s7.up (show 4288 ∈ [4098, 4160, 4224, 4288, 4352] from by decide)
  have q13 : s12 256 1 = z1 := by rw [e_s12, x_up_q (by decide)]; exact q8
  have q14 : s12 256 0 = z2 := by rw [e_s12, x_up_q (by decide)]; exact q9
  have q15 : s12 257 z1.toNat = z2 := by rw [e_s12, x_up_q (by omega)]; exact q10
  have q16 : s12 258 z1.toNat = (-1) := by rw [e_s12, x_up_q (by omega)]; exact q11
  have q17 : s12 259 z1.toNat = (-1) := by rw [e_s12]; exact x_up_same
  refine x_A k139_33 (fun _ => rfl) ?_
  refine x_A k139_34 (fun _ => rfl) ?_
  refine x_getI k139_35 (f := 1) rfl (q := 256) (n := 62) (kd := 15) ⟨by decide, rfl⟩ (by decide) rfl ?_
  refine x_rw (q13) ?_
  refine x_A k139_38 (fun _ => rfl) ?_
  refine x_iadd k139_39 ?_
  refine x_top (fun z18 e_z18 => ?_)
  refine x_putI k139_40 (f := 1) rfl (q := 256) (n := 62) (kd := 15) ⟨by decide, rfl⟩ rfl rfl rfl ?_
  refine x_nh (fun s19 e_s19 => ?_)
  have hG_s19 : GI s19 := by rw [e_s19]; exact hG_s12.up (show 1 ≤ z18 ∧ z18 ≤ 40 from ⟨by omega, by omega⟩)
  have f_s19 : FL [4098, 4160, 4224, 4288, 4352] s0 s19 := by rw [e_s19]; exact f_s12.up (show 4098 ∈ [4098, 4160, 4224, 4288, 4352] from by decide)
  have q20 : s19 256 0 = z2 := by rw [e_s19, x_up_i (by decide)]; exact q14
  have q21 : s19 256 1 = z18 := by rw [e_s19]; exact x_up_same
  have q22 : s19 257 z1.toNat = z2 := by rw [e_s19, x_up_q (by omega)]; exact q15
  have q23 : s19 258 z1.toNat = (-1) := by rw [e_s19, x_up_q (by omega)]; exact q16
  have q24 : s19 259 z1.toNat = (-1) := by rw [e_s19, x_up_q (by omega)]; exact q17
  refine x_A k139_43 (fun _ => rfl) ?_
  refine x_A k139_44 (fun _ => rfl) ?_
  refine x_getI k139_45 (f := 1) rfl (q := 256) (n := 62) (kd := 15) ⟨by decide, rfl⟩ (by decide) rfl ?_
  refine x_rw (q21) ?_
  refine x_A k139_48 (fun _ => rfl) ?_
  refine x_isub k139_49 ?_
  refine x_top (fun z25 e_z25 => ?_)
  refine x_A k139_50 (fun _ => rfl) ?_
  have J_t : J s19 := by rw [e_s19, e_s12, e_s7, e_s3]; exact J.tell i0_J hG0 e_z1 e_z2 (by omega) (by omega)
  have x_t : ∀ k, xup s19 (s19 256 0) k a ≠ z1 := by rw [e_s19, e_s12, e_s7, e_s3]; exact J.tellx i0_J hG0 e_z1 (by omega)
  refine x_callV k139_51 (y := 140) (n := 2) (w0 := 0) (w1 := 2) (as := [vi z25, vi a]) (rest := []) (by decide +kernel) (q := 256) (nq := 62) (kq := 15) ⟨by decide, rfl⟩ rfl rfl rfl rfl (xe_mono (D_X11_hang_256 s19 hG_s19 z25 ⟨by omega, by omega⟩ a ⟨by omega, by omega⟩) ?_)
  rintro s27 v ⟨hG_s27, t_s27, rfl, xp_z26⟩
  have f_s27 : FL [4098, 4160, 4224, 4288, 4352] s0 s27 := f_s19.tr t_s27 (by decide)
  have q28 : s27 256 0 = z2 := (t_s27 256 0 (show 4097 ∉ [4352] from by decide)).trans q20
  have q29 : s27 256 1 = z18 := (t_s27 256 1 (show 4098 ∉ [4352] from by decide)).trans q21
  have q30 : s27 257 z1.toNat = z2 := (t_s27 257 z1.toNat (show 4160 ∉ [4352] from by decide)).trans q22
  have q31 : s27 258 z1.toNat = (-1) := (t_s27 258 z1.toNat (show 4224 ∉ [4352] from by decide)).trans q23
  have q32 : s27 259 z1.toNat = (-1) := (t_s27 259 z1.toNat (show 4288 ∉ [4352] from by decide)).trans q24
  show xe none 139 54 [(0, .ref 256), (1, vi a)] [] s27 0 0 _
  have J_h : J s27 := J.hang J_t hG_s19 (m := z25) (p := a) ⟨by omega, by omega⟩ ⟨by omega, by rw [q21]; omega⟩ (by rw [show z25 = z1 by omega]; exact x_t) t_s27 xp_z26
  exact x_vret k139_54 rfl ⟨hG_s27, f_s27, rfl, ⟨by omega, fun j => by rw [t_s27 257 j (show 4160 ∉ _ from by decide), e_s19, x_up_q (by decide), e_s12, x_up_q (by decide), e_s7, x_up_q (by decide), e_s3, x_up_at, show z1 = s0 256 1 by omega, show z2 = s0 256 0 by omega], fun j => by rw [t_s27 258 j (show 4224 ∉ _ from by decide), e_s19, x_up_q (by decide), e_s12, x_up_q (by decide), e_s7, x_up_at, e_s3, x_up_q (by decide), show z1 = s0 256 1 by omega]⟩, J_h⟩
theorem E_X11_mark_256 (s0 : xS) (hG0 : GI s0) (a : Int) (b_a : (-2147483648) ≤ a ∧ a ≤ 2147483647) (p_256_1 : 1 ≤ s0 256 1 ∧ s0 256 1 ≤ 40) (p_256_0 : 0 ≤ s0 256 0 ∧ s0 256 0 ≤ 9) (i0_J : J s0) : xe none 146 0 (lv_args 0 [.ref 256, vi a]) [] s0 0 0 (fun s' v => GI s' ∧ FL [4098, 4160, 4224, 4288, 4352] s0 s' ∧ ∃ z, v = some (vi z) ∧ ((-1004) ≤ z ∧ z ≤ 39) ∧ (MkR s0 s' a z) ∧ J s') := by
  have f0 : FL [4098, 4160, 4224, 4288, 4352] s0 s0 := FL.rf
  show xe none 146 0 [(0, .ref 256), (1, vi a)] [] s0 0 0 _
  obtain ⟨z1, e_z1⟩ : ∃ z, z = s0 256 1 := ⟨_, rfl⟩
  have g_z1 : (1 : Int) ≤ s0 256 1 ∧ s0 256 1 ≤ 40 := hG0 256 1
  obtain ⟨z2, e_z2⟩ : ∃ z, z = s0 256 0 := ⟨_, rfl⟩
  have g_z2 : (0 : Int) ≤ s0 256 0 ∧ s0 256 0 ≤ 9 := hG0 256 0
  refine x_A k146_0 (fun _ => rfl) ?_
  refine x_A k146_1 (fun _ => rfl) ?_
  refine x_callV k146_2 (y := 137) (n := 1) (w0 := 0) (w1 := 1) (as := [vi a]) (rest := []) (by decide +kernel) (q := 256) (nq := 62) (kq := 15) ⟨by decide, rfl⟩ rfl rfl rfl rfl (xe_mono (C_X11_isMark_256 s0 hG0 a ⟨by omega, by omega⟩) ?_)
  rintro s4 v ⟨h_s4, z3, rfl, hz_z3⟩
  rw [h_s4]
  rcases hz_z3 with ⟨c_z3, e_z3⟩ | ⟨c_z3, e_z3⟩
  · rw [e_z3]
    show xe none 146 5 [(0, .ref 256), (1, vi a)] [vi 1] s0 0 0 _
    refine x_if_ne k146_5 (t := 12) rfl ⟨by omega, by omega⟩ (fun c5 => ?_) (fun c5 => by exfalso; omega)
    refine x_A k146_12 (fun _ => rfl) ?_
    refine x_A k146_13 (fun _ => rfl) ?_
    refine x_A k146_14 (fun _ => rfl) ?_
    refine x_getI k146_15 (f := 0) rfl (q := 256) (n := 62) (kd := 15) ⟨by decide, rfl⟩ (by decide) rfl ?_
    refine x_rw (e_z2.symm) ?_
    refine x_callV k146_18 (y := 142) (n := 2) (w0 := 0) (w1 := 2) (as := [vi a, vi z2]) (rest := []) (by decide +kernel) (q := 256) (nq := 62) (kq := 15) ⟨by decide, rfl⟩ rfl rfl rfl rfl (xe_mono (C_X11_isThere_256 s0 hG0 a ⟨by omega, by omega⟩ z2 ⟨by omega, by omega⟩) ?_)
    rintro s7 v ⟨h_s7, z6, rfl, hz_z6⟩
    rw [h_s7]
    rcases hz_z6 with ⟨c_z6, e_z6, m_z6⟩ | ⟨e_z6, m_z6⟩
    · rw [e_z6]
      show xe none 146 21 [(0, .ref 256), (1, vi a)] [vi 1] s0 0 0 _
      refine x_if_ne k146_21 (t := 28) rfl ⟨by omega, by omega⟩ (fun c8 => ?_) (fun c8 => by exfalso; omega)
      refine x_A k146_28 (fun _ => rfl) ?_
      refine x_getI k146_29 (f := 1) rfl (q := 256) (n := 62) (kd := 15) ⟨by decide, rfl⟩ (by decide) rfl ?_
      refine x_rw (e_z1.symm) ?_
      refine x_bipush k146_32 (by decide +kernel) ?_
      refine x_ic_ne k146_34 (t := 41) rfl ⟨by omega, by omega⟩ ⟨by omega, by omega⟩ (fun c9 => ?_) (fun c9 => ?_)
      · skip
        refine x_A k146_41 (fun _ => rfl) ?_
        refine x_A k146_42 (fun _ => rfl) ?_
        refine x_callV k146_43 (y := 139) (n := 1) (w0 := 0) (w1 := 1) (as := [vi a]) (rest := []) (by decide +kernel) (q := 256) (nq := 62) (kq := 15) ⟨by decide, rfl⟩ rfl rfl rfl rfl (xe_mono (E_X11_tell_256 s0 hG0 a ⟨by omega, by omega⟩ ⟨by omega, by omega⟩ (by omega) i0_J) ?_)
        rintro s11 v ⟨hG_s11, t_s11, rfl, xp_z10, J_s11⟩
        have f_s11 : FL [4098, 4160, 4224, 4288, 4352] s0 s11 := f0.tr t_s11 (by decide)
        have q12 : s11 256 0 = z2 := (t_s11 256 0 (show 4097 ∉ [4098, 4160, 4224, 4288, 4352] from by decide)).trans e_z2.symm
        obtain ⟨z13, e_z13⟩ : ∃ z, z = s11 256 1 := ⟨_, rfl⟩
        have g_z13 : (1 : Int) ≤ s11 256 1 ∧ s11 256 1 ≤ 40 := hG_s11 256 1
        show xe none 146 46 [(0, .ref 256), (1, vi a)] [] s11 0 0 _
        refine x_A k146_46 (fun _ => rfl) ?_
        refine x_getI k146_47 (f := 1) rfl (q := 256) (n := 62) (kd := 15) ⟨by decide, rfl⟩ (by decide) rfl ?_
        refine x_rw (e_z13.symm) ?_
        refine x_A k146_50 (fun _ => rfl) ?_
        refine x_isub k146_51 ?_
        refine x_top (fun z14 e_z14 => ?_)
        exact x_iret k146_52 rfl ⟨hG_s11, f_s11, z14, rfl, ⟨by omega, by omega⟩, (by unfold MkR; exact Or.inr (Or.inr (Or.inr ⟨by omega, by omega, by omega, by omega, xp_z10.1, xp_z10.2.1, xp_z10.2.2⟩))), J_s11⟩
      · skip
        refine x_sipush k146_37 (by decide +kernel) ?_
        exact x_iret k146_40 rfl ⟨hG0, f0, (-1004), rfl, ⟨by omega, by omega⟩, (by unfold MkR; exact Or.inr (Or.inr (Or.inl ⟨by omega, by omega, by omega, rfl, rfl, rfl, rfl⟩))), i0_J⟩
    · rw [e_z6]
      show xe none 146 21 [(0, .ref 256), (1, vi a)] [vi 0] s0 0 0 _
      refine x_if_ne k146_21 (t := 28) rfl ⟨by omega, by omega⟩ (fun c15 => by exfalso; omega) (fun c15 => ?_)
      refine x_sipush k146_24 (by decide +kernel) ?_
      exact x_iret k146_27 rfl ⟨hG0, f0, (-1003), rfl, ⟨by omega, by omega⟩, (by unfold MkR; exact Or.inr (Or.inl ⟨by omega, by omega, rfl, rfl, rfl, rfl⟩)), i0_J⟩
  · rw [e_z3]
    show xe none 146 5 [(0, .ref 256), (1, vi a)] [vi 0] s0 0 0 _
    refine x_if_ne k146_5 (t := 12) rfl ⟨by omega, by omega⟩ (fun c16 => by exfalso; omega) (fun c16 => ?_)
    refine x_sipush k146_8 (by decide +kernel) ?_
    exact x_iret k146_11 rfl ⟨hG0, f0, (-1001), rfl, ⟨by omega, by omega⟩, (by unfold MkR; exact Or.inl ⟨by omega, rfl, rfl, rfl, rfl⟩), i0_J⟩
theorem E_X10_end_0 (s0 : xS) (hG0 : GI s0) (a : Int) (b_a : (-2147483648) ≤ a ∧ a ≤ 2147483647) (b : Int) (b_b : (-2147483648) ≤ b ∧ b ≤ 2147483647) (p_1_4 : 1 ≤ s0 1 4 ∧ s0 1 4 ≤ 40) (p_0_10 : 0 ≤ s0 0 10 ∧ s0 0 10 ≤ 9) : xe none 94 0 (lv_args 0 [.ref 0, vi a, vi b]) [] s0 0 0 (fun s' v => GI s' ∧ FL [192, 256, 3276, 3277] s0 s' ∧ ∃ z, v = some (vi z) ∧ ((-1004) ≤ z ∧ z ≤ 39) ∧ (EnC s0 s' a b)) := by
  have f0 : FL [192, 256, 3276, 3277] s0 s0 := FL.rf
  show xe none 94 0 [(0, .ref 0), (1, vi a), (2, vi b)] [] s0 0 0 _
  obtain ⟨z1, e_z1⟩ : ∃ z, z = s0 1 4 := ⟨_, rfl⟩
  have g_z1 : (1 : Int) ≤ s0 1 4 ∧ s0 1 4 ≤ 40 := hG0 1 4
  obtain ⟨z2, e_z2⟩ : ∃ z, z = s0 0 10 := ⟨_, rfl⟩
  have g_z2 : (0 : Int) ≤ s0 0 10 ∧ s0 0 10 ≤ 9 := hG0 0 10
  refine x_A k94_0 (fun _ => rfl) ?_
  refine x_getR k94_1 (f := 0) rfl (q := 0) (n := 12) (kd := 3) ⟨by decide, rfl⟩ (q2 := 1) (by decide) rfl ?_
  refine x_A k94_4 (fun _ => rfl) ?_
  refine x_callV k94_5 (y := 59) (n := 1) (w0 := 0) (w1 := 1) (as := [vi a]) (rest := []) (by decide +kernel) (q := 1) (nq := 5) (kq := 4) ⟨by decide, rfl⟩ rfl rfl rfl rfl (xe_mono (C_X7_has_1 s0 hG0 a ⟨by omega, by omega⟩) ?_)
  rintro s4 v ⟨h_s4, z3, rfl, hz_z3⟩
  rw [h_s4]
  rcases hz_z3 with ⟨c_z3, e_z3⟩ | ⟨c_z3, e_z3⟩
  · rw [e_z3]
    show xe none 94 8 [(0, .ref 0), (1, vi a), (2, vi b)] [vi 1] s0 0 0 _
    refine x_if_eq k94_8 (t := 27) rfl ⟨by omega, by omega⟩ (fun c5 => by exfalso; omega) (fun c5 => ?_)
    refine x_A k94_11 (fun _ => rfl) ?_
    refine x_A k94_12 (fun _ => rfl) ?_
    refine x_ic_eq k94_13 (t := 31) rfl ⟨by omega, by omega⟩ ⟨by omega, by omega⟩ (fun c6 => ?_) (fun c6 => ?_)
    · skip
      refine x_A k94_31 (fun _ => rfl) ?_
      refine x_if_eq k94_32 (t := 55) rfl ⟨by omega, by omega⟩ (fun c7 => ?_) (fun c7 => ?_)
      · skip
        refine x_sipush k94_55 (by decide +kernel) ?_
        exact x_iret k94_58 rfl ⟨hG0, f0, (-1003), rfl, ⟨by omega, by omega⟩, (by unfold EnC; exact Or.inr (Or.inl ⟨by omega, by omega, rfl⟩))⟩
      · skip
        refine x_A k94_35 (fun _ => rfl) ?_
        refine x_A k94_36 (fun _ => rfl) ?_
        refine x_ic_eq k94_37 (t := 55) rfl ⟨by omega, by omega⟩ ⟨by omega, by omega⟩ (fun c8 => by exfalso; omega) (fun c8 => ?_)
        refine x_A k94_40 (fun _ => rfl) ?_
        refine x_getR k94_41 (f := 0) rfl (q := 0) (n := 12) (kd := 3) ⟨by decide, rfl⟩ (q2 := 1) (by decide) rfl ?_
        refine x_A k94_44 (fun _ => rfl) ?_
        refine x_A k94_45 (fun _ => rfl) ?_
        refine x_getI k94_46 (f := 10) rfl (q := 0) (n := 12) (kd := 3) ⟨by decide, rfl⟩ (by decide) rfl ?_
        refine x_rw (e_z2.symm) ?_
        refine x_callV k94_49 (y := 64) (n := 2) (w0 := 0) (w1 := 2) (as := [vi a, vi z2]) (rest := []) (by decide +kernel) (q := 1) (nq := 5) (kq := 4) ⟨by decide, rfl⟩ rfl rfl rfl rfl (xe_mono (E_X7_isThere_1 s0 hG0 a ⟨by omega, by omega⟩ z2 ⟨by omega, by omega⟩) ?_)
        rintro s10 v ⟨h_s10, z9, rfl, hz_z9⟩
        rw [h_s10]
        rcases hz_z9 with ⟨c_z9, e_z9, m_z9⟩ | ⟨e_z9, m_z9⟩
        · rw [e_z9]
          show xe none 94 52 [(0, .ref 0), (1, vi a), (2, vi b)] [vi 1] s0 0 0 _
          refine x_if_ne k94_52 (t := 59) rfl ⟨by omega, by omega⟩ (fun c11 => ?_) (fun c11 => by exfalso; omega)
          refine x_A k94_59 (fun _ => rfl) ?_
          refine x_A k94_60 (fun _ => rfl) ?_
          refine x_ic_eq k94_61 (t := 83) rfl ⟨by omega, by omega⟩ ⟨by omega, by omega⟩ (fun c12 => ?_) (fun c12 => by exfalso; omega)
          refine x_A k94_83 (fun _ => rfl) ?_
          refine x_getR k94_84 (f := 9) rfl (q := 0) (n := 12) (kd := 3) ⟨by decide, rfl⟩ (q2 := 243) (by decide) rfl ?_
          refine x_callV k94_87 (y := 73) (n := 0) (w0 := 0) (w1 := 0) (as := []) (rest := []) (by decide +kernel) (q := 243) (nq := 13) (kq := 13) ⟨by decide, rfl⟩ rfl rfl rfl rfl (xe_mono (C_X8_forget_243 s0 hG0) ?_)
          rintro s14 v ⟨hG_s14, t_s14, rfl⟩
          have f_s14 : FL [192, 256, 3276, 3277] s0 s14 := f0.tr t_s14 (by decide)
          have q15 : s14 1 4 = z1 := (t_s14 1 4 (show 69 ∉ [3276, 3277] from by decide)).trans e_z1.symm
          have q16 : s14 0 10 = z2 := (t_s14 0 10 (show 11 ∉ [3276, 3277] from by decide)).trans e_z2.symm
          show xe none 94 90 [(0, .ref 0), (1, vi a), (2, vi b)] [] s14 0 0 _
          have F3 : s14 3 = s0 3 := funext fun i => t_s14 3 i (show 192 ∉ _ from by decide)
          refine x_A k94_90 (fun _ => rfl) ?_
          refine x_getR k94_91 (f := 0) rfl (q := 0) (n := 12) (kd := 3) ⟨by decide, rfl⟩ (q2 := 1) (by decide) rfl ?_
          refine x_getR k94_94 (f := 1) rfl (q := 1) (n := 5) (kd := 4) ⟨by decide, rfl⟩ (q2 := 3) (by decide) rfl ?_
          refine x_A k94_97 (fun _ => rfl) ?_
          refine x_A k94_98 (fun _ => rfl) ?_
          refine x_getI k94_99 (f := 10) rfl (q := 0) (n := 12) (kd := 3) ⟨by decide, rfl⟩ (by decide) rfl ?_
          refine x_rw (q16) ?_
          refine x_iast k94_102 (q := 3) (n := 40) ⟨by decide, rfl⟩ (by decide) ⟨by omega, by omega⟩ ?_
          refine x_nh (fun s17 e_s17 => ?_)
          have hG_s17 : GI s17 := by rw [e_s17]; exact hG_s14.up (show (-1) ≤ z2 ∧ z2 ≤ 9 from ⟨by omega, by omega⟩)
          have f_s17 : FL [192, 256, 3276, 3277] s0 s17 := by rw [e_s17]; exact f_s14.up (show 192 ∈ [192, 256, 3276, 3277] from by decide)
          have q18 : s17 1 4 = z1 := by rw [e_s17, x_up_q (by decide)]; exact q15
          have q19 : s17 0 10 = z2 := by rw [e_s17, x_up_q (by decide)]; exact q16
          have q20 : s17 3 a.toNat = z2 := by rw [e_s17]; exact x_up_same
          refine x_A k94_103 (fun _ => rfl) ?_
          refine x_getR k94_104 (f := 0) rfl (q := 0) (n := 12) (kd := 3) ⟨by decide, rfl⟩ (q2 := 1) (by decide) rfl ?_
          refine x_getR k94_107 (f := 2) rfl (q := 1) (n := 5) (kd := 4) ⟨by decide, rfl⟩ (q2 := 4) (by decide) rfl ?_
          refine x_A k94_110 (fun _ => rfl) ?_
          refine x_A k94_111 (fun _ => rfl) ?_
          refine x_iast k94_112 (q := 4) (n := 40) ⟨by decide, rfl⟩ (by decide) ⟨by omega, by omega⟩ ?_
          refine x_nh (fun s21 e_s21 => ?_)
          have hG_s21 : GI s21 := by rw [e_s21]; exact hG_s17.up (show (-1) ≤ b ∧ b ≤ 39 from ⟨by omega, by omega⟩)
          have f_s21 : FL [192, 256, 3276, 3277] s0 s21 := by rw [e_s21]; exact f_s17.up (show 256 ∈ [192, 256, 3276, 3277] from by decide)
          have q22 : s21 1 4 = z1 := by rw [e_s21, x_up_q (by decide)]; exact q18
          have q23 : s21 0 10 = z2 := by rw [e_s21, x_up_q (by decide)]; exact q19
          have q24 : s21 3 a.toNat = z2 := by rw [e_s21, x_up_q (by omega)]; exact q20
          have q25 : s21 4 a.toNat = b := by rw [e_s21]; exact x_up_same
          refine x_A k94_113 (fun _ => rfl) ?_
          refine x_getR k94_114 (f := 0) rfl (q := 0) (n := 12) (kd := 3) ⟨by decide, rfl⟩ (q2 := 1) (by decide) rfl ?_
          refine x_A k94_117 (fun _ => rfl) ?_
          refine x_A k94_118 (fun _ => rfl) ?_
          refine x_getI k94_119 (f := 10) rfl (q := 0) (n := 12) (kd := 3) ⟨by decide, rfl⟩ (by decide) rfl ?_
          refine x_rw (q23) ?_
          refine x_callV k94_122 (y := 67) (n := 2) (w0 := 0) (w1 := 2) (as := [vi a, vi z2]) (rest := []) (by decide +kernel) (q := 1) (nq := 5) (kq := 4) ⟨by decide, rfl⟩ rfl rfl rfl rfl (xe_mono (C_X7_countBelow_1 s21 hG_s21 a ⟨by omega, by omega⟩ z2 ⟨by omega, by omega⟩) ?_)
          rintro s27 v ⟨-, t_s27, z26, rfl, g_z26⟩
          rw [t_s27.nil]
          show xe none 94 125 [(0, .ref 0), (1, vi a), (2, vi b)] [vi z26] s21 0 0 _
          refine x_A k94_125 (fun _ => rfl) ?_
          refine x_isub k94_126 ?_
          refine x_top (fun z28 e_z28 => ?_)
          exact x_iret k94_127 rfl ⟨hG_s21, f_s21, z28, rfl, ⟨by omega, by omega⟩, (by unfold EnC; exact Or.inr (Or.inr ⟨by omega, by omega, fun j => by rw [e_s21, x_up_q (by decide), e_s17, x_up_at, show z2 = s0 0 10 by omega, F3]⟩))⟩
        · rw [e_z9]
          show xe none 94 52 [(0, .ref 0), (1, vi a), (2, vi b)] [vi 0] s0 0 0 _
          refine x_if_ne k94_52 (t := 59) rfl ⟨by omega, by omega⟩ (fun c29 => by exfalso; omega) (fun c29 => ?_)
          refine x_sipush k94_55 (by decide +kernel) ?_
          exact x_iret k94_58 rfl ⟨hG0, f0, (-1003), rfl, ⟨by omega, by omega⟩, (by unfold EnC; exact Or.inr (Or.inl ⟨by omega, by omega, rfl⟩))⟩
    · skip
      refine x_A k94_16 (fun _ => rfl) ?_
      refine x_getR k94_17 (f := 0) rfl (q := 0) (n := 12) (kd := 3) ⟨by decide, rfl⟩ (q2 := 1) (by decide) rfl ?_
      refine x_A k94_20 (fun _ => rfl) ?_
      refine x_callV k94_21 (y := 59) (n := 1) (w0 := 0) (w1 := 1) (as := [vi b]) (rest := []) (by decide +kernel) (q := 1) (nq := 5) (kq := 4) ⟨by decide, rfl⟩ rfl rfl rfl rfl (xe_mono (C_X7_has_1 s0 hG0 b ⟨by omega, by omega⟩) ?_)
      rintro s31 v ⟨h_s31, z30, rfl, hz_z30⟩
      rw [h_s31]
      rcases hz_z30 with ⟨c_z30, e_z30⟩ | ⟨c_z30, e_z30⟩
      · rw [e_z30]
        show xe none 94 24 [(0, .ref 0), (1, vi a), (2, vi b)] [vi 1] s0 0 0 _
        refine x_if_ne k94_24 (t := 31) rfl ⟨by omega, by omega⟩ (fun c32 => ?_) (fun c32 => by exfalso; omega)
        refine x_A k94_31 (fun _ => rfl) ?_
        refine x_if_eq k94_32 (t := 55) rfl ⟨by omega, by omega⟩ (fun c33 => ?_) (fun c33 => ?_)
        · skip
          refine x_sipush k94_55 (by decide +kernel) ?_
          exact x_iret k94_58 rfl ⟨hG0, f0, (-1003), rfl, ⟨by omega, by omega⟩, (by unfold EnC; exact Or.inr (Or.inl ⟨by omega, by omega, rfl⟩))⟩
        · skip
          refine x_A k94_35 (fun _ => rfl) ?_
          refine x_A k94_36 (fun _ => rfl) ?_
          refine x_ic_eq k94_37 (t := 55) rfl ⟨by omega, by omega⟩ ⟨by omega, by omega⟩ (fun c34 => ?_) (fun c34 => ?_)
          · skip
            refine x_sipush k94_55 (by decide +kernel) ?_
            exact x_iret k94_58 rfl ⟨hG0, f0, (-1003), rfl, ⟨by omega, by omega⟩, (by unfold EnC; exact Or.inr (Or.inl ⟨by omega, by omega, rfl⟩))⟩
          · skip
            refine x_A k94_40 (fun _ => rfl) ?_
            refine x_getR k94_41 (f := 0) rfl (q := 0) (n := 12) (kd := 3) ⟨by decide, rfl⟩ (q2 := 1) (by decide) rfl ?_
            refine x_A k94_44 (fun _ => rfl) ?_
            refine x_A k94_45 (fun _ => rfl) ?_
            refine x_getI k94_46 (f := 10) rfl (q := 0) (n := 12) (kd := 3) ⟨by decide, rfl⟩ (by decide) rfl ?_
            refine x_rw (e_z2.symm) ?_
            refine x_callV k94_49 (y := 64) (n := 2) (w0 := 0) (w1 := 2) (as := [vi a, vi z2]) (rest := []) (by decide +kernel) (q := 1) (nq := 5) (kq := 4) ⟨by decide, rfl⟩ rfl rfl rfl rfl (xe_mono (E_X7_isThere_1 s0 hG0 a ⟨by omega, by omega⟩ z2 ⟨by omega, by omega⟩) ?_)
            rintro s36 v ⟨h_s36, z35, rfl, hz_z35⟩
            rw [h_s36]
            rcases hz_z35 with ⟨c_z35, e_z35, m_z35⟩ | ⟨e_z35, m_z35⟩
            · rw [e_z35]
              show xe none 94 52 [(0, .ref 0), (1, vi a), (2, vi b)] [vi 1] s0 0 0 _
              refine x_if_ne k94_52 (t := 59) rfl ⟨by omega, by omega⟩ (fun c37 => ?_) (fun c37 => by exfalso; omega)
              refine x_A k94_59 (fun _ => rfl) ?_
              refine x_A k94_60 (fun _ => rfl) ?_
              refine x_ic_eq k94_61 (t := 83) rfl ⟨by omega, by omega⟩ ⟨by omega, by omega⟩ (fun c38 => by exfalso; omega) (fun c38 => ?_)
              refine x_A k94_64 (fun _ => rfl) ?_
              refine x_getR k94_65 (f := 0) rfl (q := 0) (n := 12) (kd := 3) ⟨by decide, rfl⟩ (q2 := 1) (by decide) rfl ?_
              refine x_A k94_68 (fun _ => rfl) ?_
              refine x_A k94_69 (fun _ => rfl) ?_
              refine x_getI k94_70 (f := 10) rfl (q := 0) (n := 12) (kd := 3) ⟨by decide, rfl⟩ (by decide) rfl ?_
              refine x_rw (e_z2.symm) ?_
              refine x_callV k94_73 (y := 64) (n := 2) (w0 := 0) (w1 := 2) (as := [vi b, vi z2]) (rest := []) (by decide +kernel) (q := 1) (nq := 5) (kq := 4) ⟨by decide, rfl⟩ rfl rfl rfl rfl (xe_mono (E_X7_isThere_1 s0 hG0 b ⟨by omega, by omega⟩ z2 ⟨by omega, by omega⟩) ?_)
              rintro s40 v ⟨h_s40, z39, rfl, hz_z39⟩
              rw [h_s40]
              rcases hz_z39 with ⟨c_z39, e_z39, m_z39⟩ | ⟨e_z39, m_z39⟩
              · rw [e_z39]
                show xe none 94 76 [(0, .ref 0), (1, vi a), (2, vi b)] [vi 1] s0 0 0 _
                refine x_if_ne k94_76 (t := 83) rfl ⟨by omega, by omega⟩ (fun c41 => ?_) (fun c41 => by exfalso; omega)
                refine x_A k94_83 (fun _ => rfl) ?_
                refine x_getR k94_84 (f := 9) rfl (q := 0) (n := 12) (kd := 3) ⟨by decide, rfl⟩ (q2 := 243) (by decide) rfl ?_
                refine x_callV k94_87 (y := 73) (n := 0) (w0 := 0) (w1 := 0) (as := []) (rest := []) (by decide +kernel) (q := 243) (nq := 13) (kq := 13) ⟨by decide, rfl⟩ rfl rfl rfl rfl (xe_mono (C_X8_forget_243 s0 hG0) ?_)
                rintro s43 v ⟨hG_s43, t_s43, rfl⟩
                have f_s43 : FL [192, 256, 3276, 3277] s0 s43 := f0.tr t_s43 (by decide)
                have q44 : s43 1 4 = z1 := (t_s43 1 4 (show 69 ∉ [3276, 3277] from by decide)).trans e_z1.symm
                have q45 : s43 0 10 = z2 := (t_s43 0 10 (show 11 ∉ [3276, 3277] from by decide)).trans e_z2.symm
                show xe none 94 90 [(0, .ref 0), (1, vi a), (2, vi b)] [] s43 0 0 _
                have F3 : s43 3 = s0 3 := funext fun i => t_s43 3 i (show 192 ∉ _ from by decide)
                refine x_A k94_90 (fun _ => rfl) ?_
                refine x_getR k94_91 (f := 0) rfl (q := 0) (n := 12) (kd := 3) ⟨by decide, rfl⟩ (q2 := 1) (by decide) rfl ?_
                refine x_getR k94_94 (f := 1) rfl (q := 1) (n := 5) (kd := 4) ⟨by decide, rfl⟩ (q2 := 3) (by decide) rfl ?_
                refine x_A k94_97 (fun _ => rfl) ?_
                refine x_A k94_98 (fun _ => rfl) ?_
                refine x_getI k94_99 (f := 10) rfl (q := 0) (n := 12) (kd := 3) ⟨by decide, rfl⟩ (by decide) rfl ?_
                refine x_rw (q45) ?_
                refine x_iast k94_102 (q := 3) (n := 40) ⟨by decide, rfl⟩ (by decide) ⟨by omega, by omega⟩ ?_
                refine x_nh (fun s46 e_s46 => ?_)
                have hG_s46 : GI s46 := by rw [e_s46]; exact hG_s43.up (show (-1) ≤ z2 ∧ z2 ≤ 9 from ⟨by omega, by omega⟩)
                have f_s46 : FL [192, 256, 3276, 3277] s0 s46 := by rw [e_s46]; exact f_s43.up (show 192 ∈ [192, 256, 3276, 3277] from by decide)
                have q47 : s46 1 4 = z1 := by rw [e_s46, x_up_q (by decide)]; exact q44
                have q48 : s46 0 10 = z2 := by rw [e_s46, x_up_q (by decide)]; exact q45
                have q49 : s46 3 a.toNat = z2 := by rw [e_s46]; exact x_up_same
                refine x_A k94_103 (fun _ => rfl) ?_
                refine x_getR k94_104 (f := 0) rfl (q := 0) (n := 12) (kd := 3) ⟨by decide, rfl⟩ (q2 := 1) (by decide) rfl ?_
                refine x_getR k94_107 (f := 2) rfl (q := 1) (n := 5) (kd := 4) ⟨by decide, rfl⟩ (q2 := 4) (by decide) rfl ?_
                refine x_A k94_110 (fun _ => rfl) ?_
                refine x_A k94_111 (fun _ => rfl) ?_
                refine x_iast k94_112 (q := 4) (n := 40) ⟨by decide, rfl⟩ (by decide) ⟨by omega, by omega⟩ ?_
                refine x_nh (fun s50 e_s50 => ?_)
                have hG_s50 : GI s50 := by rw [e_s50]; exact hG_s46.up (show (-1) ≤ b ∧ b ≤ 39 from ⟨by omega, by omega⟩)
                have f_s50 : FL [192, 256, 3276, 3277] s0 s50 := by rw [e_s50]; exact f_s46.up (show 256 ∈ [192, 256, 3276, 3277] from by decide)
                have q51 : s50 1 4 = z1 := by rw [e_s50, x_up_q (by decide)]; exact q47
                have q52 : s50 0 10 = z2 := by rw [e_s50, x_up_q (by decide)]; exact q48
                have q53 : s50 3 a.toNat = z2 := by rw [e_s50, x_up_q (by omega)]; exact q49
                have q54 : s50 4 a.toNat = b := by rw [e_s50]; exact x_up_same
                refine x_A k94_113 (fun _ => rfl) ?_
                refine x_getR k94_114 (f := 0) rfl (q := 0) (n := 12) (kd := 3) ⟨by decide, rfl⟩ (q2 := 1) (by decide) rfl ?_
                refine x_A k94_117 (fun _ => rfl) ?_
                refine x_A k94_118 (fun _ => rfl) ?_
                refine x_getI k94_119 (f := 10) rfl (q := 0) (n := 12) (kd := 3) ⟨by decide, rfl⟩ (by decide) rfl ?_
                refine x_rw (q52) ?_
                refine x_callV k94_122 (y := 67) (n := 2) (w0 := 0) (w1 := 2) (as := [vi a, vi z2]) (rest := []) (by decide +kernel) (q := 1) (nq := 5) (kq := 4) ⟨by decide, rfl⟩ rfl rfl rfl rfl (xe_mono (C_X7_countBelow_1 s50 hG_s50 a ⟨by omega, by omega⟩ z2 ⟨by omega, by omega⟩) ?_)
                rintro s56 v ⟨-, t_s56, z55, rfl, g_z55⟩
                rw [t_s56.nil]
                show xe none 94 125 [(0, .ref 0), (1, vi a), (2, vi b)] [vi z55] s50 0 0 _
                refine x_A k94_125 (fun _ => rfl) ?_
                refine x_isub k94_126 ?_
                refine x_top (fun z57 e_z57 => ?_)
                exact x_iret k94_127 rfl ⟨hG_s50, f_s50, z57, rfl, ⟨by omega, by omega⟩, (by unfold EnC; exact Or.inr (Or.inr ⟨by omega, by omega, fun j => by rw [e_s50, x_up_q (by decide), e_s46, x_up_at, show z2 = s0 0 10 by omega, F3]⟩))⟩
              · rw [e_z39]
                show xe none 94 76 [(0, .ref 0), (1, vi a), (2, vi b)] [vi 0] s0 0 0 _
                refine x_if_ne k94_76 (t := 83) rfl ⟨by omega, by omega⟩ (fun c58 => by exfalso; omega) (fun c58 => ?_)
                refine x_sipush k94_79 (by decide +kernel) ?_
                exact x_iret k94_82 rfl ⟨hG0, f0, (-1003), rfl, ⟨by omega, by omega⟩, (by unfold EnC; exact Or.inr (Or.inl ⟨by omega, by omega, rfl⟩))⟩
            · rw [e_z35]
              show xe none 94 52 [(0, .ref 0), (1, vi a), (2, vi b)] [vi 0] s0 0 0 _
              refine x_if_ne k94_52 (t := 59) rfl ⟨by omega, by omega⟩ (fun c59 => by exfalso; omega) (fun c59 => ?_)
              refine x_sipush k94_55 (by decide +kernel) ?_
              exact x_iret k94_58 rfl ⟨hG0, f0, (-1003), rfl, ⟨by omega, by omega⟩, (by unfold EnC; exact Or.inr (Or.inl ⟨by omega, by omega, rfl⟩))⟩
      · rw [e_z30]
        show xe none 94 24 [(0, .ref 0), (1, vi a), (2, vi b)] [vi 0] s0 0 0 _
        refine x_if_ne k94_24 (t := 31) rfl ⟨by omega, by omega⟩ (fun c60 => by exfalso; omega) (fun c60 => ?_)
        refine x_sipush k94_27 (by decide +kernel) ?_
        exact x_iret k94_30 rfl ⟨hG0, f0, (-1001), rfl, ⟨by omega, by omega⟩, (by unfold EnC; exact Or.inl ⟨by omega, rfl⟩)⟩
  · rw [e_z3]
    show xe none 94 8 [(0, .ref 0), (1, vi a), (2, vi b)] [vi 0] s0 0 0 _
    refine x_if_eq k94_8 (t := 27) rfl ⟨by omega, by omega⟩ (fun c61 => ?_) (fun c61 => by exfalso; omega)
    refine x_sipush k94_27 (by decide +kernel) ?_
    exact x_iret k94_30 rfl ⟨hG0, f0, (-1001), rfl, ⟨by omega, by omega⟩, (by unfold EnC; exact Or.inl ⟨by omega, rfl⟩)⟩
theorem E_X11_end_256 (s0 : xS) (hG0 : GI s0) (a : Int) (b_a : (-2147483648) ≤ a ∧ a ≤ 2147483647) (b : Int) (b_b : (-2147483648) ≤ b ∧ b ≤ 2147483647) (p_256_1 : 1 ≤ s0 256 1 ∧ s0 256 1 ≤ 40) (p_256_0 : 0 ≤ s0 256 0 ∧ s0 256 0 ≤ 9) (i0_J : J s0) : xe none 148 0 (lv_args 0 [.ref 256, vi a, vi b]) [] s0 0 0 (fun s' v => GI s' ∧ FL [4224, 4288] s0 s' ∧ ∃ z, v = some (vi z) ∧ ((-1004) ≤ z ∧ z ≤ 39) ∧ (EnR s0 s' a b) ∧ J s') := by
  have f0 : FL [4224, 4288] s0 s0 := FL.rf
  show xe none 148 0 [(0, .ref 256), (1, vi a), (2, vi b)] [] s0 0 0 _
  obtain ⟨z1, e_z1⟩ : ∃ z, z = s0 256 1 := ⟨_, rfl⟩
  have g_z1 : (1 : Int) ≤ s0 256 1 ∧ s0 256 1 ≤ 40 := hG0 256 1
  obtain ⟨z2, e_z2⟩ : ∃ z, z = s0 256 0 := ⟨_, rfl⟩
  have g_z2 : (0 : Int) ≤ s0 256 0 ∧ s0 256 0 ≤ 9 := hG0 256 0
  refine x_A k148_0 (fun _ => rfl) ?_
  refine x_A k148_1 (fun _ => rfl) ?_
  refine x_callV k148_2 (y := 137) (n := 1) (w0 := 0) (w1 := 1) (as := [vi a]) (rest := []) (by decide +kernel) (q := 256) (nq := 62) (kq := 15) ⟨by decide, rfl⟩ rfl rfl rfl rfl (xe_mono (C_X11_isMark_256 s0 hG0 a ⟨by omega, by omega⟩) ?_)
  rintro s4 v ⟨h_s4, z3, rfl, hz_z3⟩
  rw [h_s4]
  rcases hz_z3 with ⟨c_z3, e_z3⟩ | ⟨c_z3, e_z3⟩
  · rw [e_z3]
    show xe none 148 5 [(0, .ref 256), (1, vi a), (2, vi b)] [vi 1] s0 0 0 _
    refine x_if_eq k148_5 (t := 21) rfl ⟨by omega, by omega⟩ (fun c5 => by exfalso; omega) (fun c5 => ?_)
    refine x_A k148_8 (fun _ => rfl) ?_
    refine x_A k148_9 (fun _ => rfl) ?_
    refine x_ic_eq k148_10 (t := 25) rfl ⟨by omega, by omega⟩ ⟨by omega, by omega⟩ (fun c6 => ?_) (fun c6 => ?_)
    · skip
      refine x_A k148_25 (fun _ => rfl) ?_
      refine x_if_eq k148_26 (t := 63) rfl ⟨by omega, by omega⟩ (fun c7 => ?_) (fun c7 => ?_)
      · skip
        refine x_sipush k148_63 (by decide +kernel) ?_
        exact x_iret k148_66 rfl ⟨hG0, f0, (-1003), rfl, ⟨by omega, by omega⟩, (by unfold EnR; exact Or.inr (Or.inl ⟨by omega, by omega, rfl⟩)), i0_J⟩
      · skip
        refine x_A k148_29 (fun _ => rfl) ?_
        refine x_A k148_30 (fun _ => rfl) ?_
        refine x_ic_eq k148_31 (t := 63) rfl ⟨by omega, by omega⟩ ⟨by omega, by omega⟩ (fun c8 => by exfalso; omega) (fun c8 => ?_)
        refine x_A k148_34 (fun _ => rfl) ?_
        refine x_A k148_35 (fun _ => rfl) ?_
        refine x_A k148_36 (fun _ => rfl) ?_
        refine x_getI k148_37 (f := 0) rfl (q := 256) (n := 62) (kd := 15) ⟨by decide, rfl⟩ (by decide) rfl ?_
        refine x_rw (e_z2.symm) ?_
        refine x_callV k148_40 (y := 142) (n := 2) (w0 := 0) (w1 := 2) (as := [vi a, vi z2]) (rest := []) (by decide +kernel) (q := 256) (nq := 62) (kq := 15) ⟨by decide, rfl⟩ rfl rfl rfl rfl (xe_mono (C_X11_isThere_256 s0 hG0 a ⟨by omega, by omega⟩ z2 ⟨by omega, by omega⟩) ?_)
        rintro s10 v ⟨h_s10, z9, rfl, hz_z9⟩
        rw [h_s10]
        rcases hz_z9 with ⟨c_z9, e_z9, m_z9⟩ | ⟨e_z9, m_z9⟩
        · rw [e_z9]
          show xe none 148 43 [(0, .ref 256), (1, vi a), (2, vi b)] [vi 1] s0 0 0 _
          refine x_if_eq k148_43 (t := 63) rfl ⟨by omega, by omega⟩ (fun c11 => by exfalso; omega) (fun c11 => ?_)
          refine x_A k148_46 (fun _ => rfl) ?_
          refine x_A k148_47 (fun _ => rfl) ?_
          refine x_ic_eq k148_48 (t := 67) rfl ⟨by omega, by omega⟩ ⟨by omega, by omega⟩ (fun c12 => ?_) (fun c12 => by exfalso; omega)
          refine x_A k148_67 (fun _ => rfl) ?_
          refine x_getR k148_68 (f := 3) rfl (q := 256) (n := 62) (kd := 15) ⟨by decide, rfl⟩ (q2 := 258) (by decide) rfl ?_
          refine x_A k148_71 (fun _ => rfl) ?_
          refine x_A k148_72 (fun _ => rfl) ?_
          refine x_getI k148_73 (f := 0) rfl (q := 256) (n := 62) (kd := 15) ⟨by decide, rfl⟩ (by decide) rfl ?_
          refine x_rw (e_z2.symm) ?_
          refine x_iast k148_76 (q := 258) (n := 40) ⟨by decide, rfl⟩ (by decide) ⟨by omega, by omega⟩ ?_
          refine x_nh (fun s13 e_s13 => ?_)
          have hG_s13 : GI s13 := by rw [e_s13]; exact hG0.up (show (-1) ≤ z2 ∧ z2 ≤ 9 from ⟨by omega, by omega⟩)
          have f_s13 : FL [4224, 4288] s0 s13 := by rw [e_s13]; exact f0.up (show 4224 ∈ [4224, 4288] from by decide)
          have q14 : s13 256 1 = z1 := by rw [e_s13, x_up_q (by decide)]; exact e_z1.symm
          have q15 : s13 256 0 = z2 := by rw [e_s13, x_up_q (by decide)]; exact e_z2.symm
          have q16 : s13 258 a.toNat = z2 := by rw [e_s13]; exact x_up_same
          refine x_A k148_77 (fun _ => rfl) ?_
          refine x_getR k148_78 (f := 4) rfl (q := 256) (n := 62) (kd := 15) ⟨by decide, rfl⟩ (q2 := 259) (by decide) rfl ?_
          refine x_A k148_81 (fun _ => rfl) ?_
          refine x_A k148_82 (fun _ => rfl) ?_
          refine x_iast k148_83 (q := 259) (n := 40) ⟨by decide, rfl⟩ (by decide) ⟨by omega, by omega⟩ ?_
          refine x_nh (fun s17 e_s17 => ?_)
          have hG_s17 : GI s17 := by rw [e_s17]; exact hG_s13.up (show (-1) ≤ b ∧ b ≤ 39 from ⟨by omega, by omega⟩)
          have f_s17 : FL [4224, 4288] s0 s17 := by rw [e_s17]; exact f_s13.up (show 4288 ∈ [4224, 4288] from by decide)
          have q18 : s17 256 1 = z1 := by rw [e_s17, x_up_q (by decide)]; exact q14
          have q19 : s17 256 0 = z2 := by rw [e_s17, x_up_q (by decide)]; exact q15
          have q20 : s17 258 a.toNat = z2 := by rw [e_s17, x_up_q (by omega)]; exact q16
          have q21 : s17 259 a.toNat = b := by rw [e_s17]; exact x_up_same
          have J_e : J s17 := by rw [e_s17, e_s13]; exact J.end i0_J hG0 e_z2 ⟨by omega, by omega⟩ (by omega) (by omega)
          refine x_A k148_84 (fun _ => rfl) ?_
          refine x_A k148_85 (fun _ => rfl) ?_
          refine x_A k148_86 (fun _ => rfl) ?_
          refine x_getI k148_87 (f := 0) rfl (q := 256) (n := 62) (kd := 15) ⟨by decide, rfl⟩ (by decide) rfl ?_
          refine x_rw (q19) ?_
          refine x_callV k148_90 (y := 144) (n := 2) (w0 := 0) (w1 := 2) (as := [vi a, vi z2]) (rest := []) (by decide +kernel) (q := 256) (nq := 62) (kq := 15) ⟨by decide, rfl⟩ rfl rfl rfl rfl (xe_mono (C_X11_belowMany_256 s17 hG_s17 J_e a ⟨by omega, by omega⟩ z2 ⟨by omega, by omega⟩) ?_)
          rintro s23 v ⟨-, t_s23, z22, rfl, g_z22⟩
          rw [t_s23.nil]
          show xe none 148 93 [(0, .ref 256), (1, vi a), (2, vi b)] [vi z22] s17 0 0 _
          refine x_A k148_93 (fun _ => rfl) ?_
          refine x_isub k148_94 ?_
          refine x_top (fun z24 e_z24 => ?_)
          exact x_iret k148_95 rfl ⟨hG_s17, f_s17, z24, rfl, ⟨by omega, by omega⟩, (by unfold EnR; exact Or.inr (Or.inr ⟨by omega, by omega, fun j => by rw [e_s17, x_up_q (by decide), e_s13, x_up_at, show z2 = s0 256 0 by omega]⟩)), J_e⟩
        · rw [e_z9]
          show xe none 148 43 [(0, .ref 256), (1, vi a), (2, vi b)] [vi 0] s0 0 0 _
          refine x_if_eq k148_43 (t := 63) rfl ⟨by omega, by omega⟩ (fun c25 => ?_) (fun c25 => by exfalso; omega)
          refine x_sipush k148_63 (by decide +kernel) ?_
          exact x_iret k148_66 rfl ⟨hG0, f0, (-1003), rfl, ⟨by omega, by omega⟩, (by unfold EnR; exact Or.inr (Or.inl ⟨by omega, by omega, rfl⟩)), i0_J⟩
    · skip
      refine x_A k148_13 (fun _ => rfl) ?_
      refine x_A k148_14 (fun _ => rfl) ?_
      refine x_callV k148_15 (y := 137) (n := 1) (w0 := 0) (w1 := 1) (as := [vi b]) (rest := []) (by decide +kernel) (q := 256) (nq := 62) (kq := 15) ⟨by decide, rfl⟩ rfl rfl rfl rfl (xe_mono (C_X11_isMark_256 s0 hG0 b ⟨by omega, by omega⟩) ?_)
      rintro s27 v ⟨h_s27, z26, rfl, hz_z26⟩
      rw [h_s27]
      rcases hz_z26 with ⟨c_z26, e_z26⟩ | ⟨c_z26, e_z26⟩
      · rw [e_z26]
        show xe none 148 18 [(0, .ref 256), (1, vi a), (2, vi b)] [vi 1] s0 0 0 _
        refine x_if_ne k148_18 (t := 25) rfl ⟨by omega, by omega⟩ (fun c28 => ?_) (fun c28 => by exfalso; omega)
        refine x_A k148_25 (fun _ => rfl) ?_
        refine x_if_eq k148_26 (t := 63) rfl ⟨by omega, by omega⟩ (fun c29 => ?_) (fun c29 => ?_)
        · skip
          refine x_sipush k148_63 (by decide +kernel) ?_
          exact x_iret k148_66 rfl ⟨hG0, f0, (-1003), rfl, ⟨by omega, by omega⟩, (by unfold EnR; exact Or.inr (Or.inl ⟨by omega, by omega, rfl⟩)), i0_J⟩
        · skip
          refine x_A k148_29 (fun _ => rfl) ?_
          refine x_A k148_30 (fun _ => rfl) ?_
          refine x_ic_eq k148_31 (t := 63) rfl ⟨by omega, by omega⟩ ⟨by omega, by omega⟩ (fun c30 => ?_) (fun c30 => ?_)
          · skip
            refine x_sipush k148_63 (by decide +kernel) ?_
            exact x_iret k148_66 rfl ⟨hG0, f0, (-1003), rfl, ⟨by omega, by omega⟩, (by unfold EnR; exact Or.inr (Or.inl ⟨by omega, by omega, rfl⟩)), i0_J⟩
          · skip
            refine x_A k148_34 (fun _ => rfl) ?_
            refine x_A k148_35 (fun _ => rfl) ?_
            refine x_A k148_36 (fun _ => rfl) ?_
            refine x_getI k148_37 (f := 0) rfl (q := 256) (n := 62) (kd := 15) ⟨by decide, rfl⟩ (by decide) rfl ?_
            refine x_rw (e_z2.symm) ?_
            refine x_callV k148_40 (y := 142) (n := 2) (w0 := 0) (w1 := 2) (as := [vi a, vi z2]) (rest := []) (by decide +kernel) (q := 256) (nq := 62) (kq := 15) ⟨by decide, rfl⟩ rfl rfl rfl rfl (xe_mono (C_X11_isThere_256 s0 hG0 a ⟨by omega, by omega⟩ z2 ⟨by omega, by omega⟩) ?_)
            rintro s32 v ⟨h_s32, z31, rfl, hz_z31⟩
            rw [h_s32]
            rcases hz_z31 with ⟨c_z31, e_z31, m_z31⟩ | ⟨e_z31, m_z31⟩
            · rw [e_z31]
              show xe none 148 43 [(0, .ref 256), (1, vi a), (2, vi b)] [vi 1] s0 0 0 _
              refine x_if_eq k148_43 (t := 63) rfl ⟨by omega, by omega⟩ (fun c33 => by exfalso; omega) (fun c33 => ?_)
              refine x_A k148_46 (fun _ => rfl) ?_
              refine x_A k148_47 (fun _ => rfl) ?_
              refine x_ic_eq k148_48 (t := 67) rfl ⟨by omega, by omega⟩ ⟨by omega, by omega⟩ (fun c34 => by exfalso; omega) (fun c34 => ?_)
              refine x_A k148_51 (fun _ => rfl) ?_
              refine x_A k148_52 (fun _ => rfl) ?_
              refine x_A k148_53 (fun _ => rfl) ?_
              refine x_getI k148_54 (f := 0) rfl (q := 256) (n := 62) (kd := 15) ⟨by decide, rfl⟩ (by decide) rfl ?_
              refine x_rw (e_z2.symm) ?_
              refine x_callV k148_57 (y := 142) (n := 2) (w0 := 0) (w1 := 2) (as := [vi b, vi z2]) (rest := []) (by decide +kernel) (q := 256) (nq := 62) (kq := 15) ⟨by decide, rfl⟩ rfl rfl rfl rfl (xe_mono (C_X11_isThere_256 s0 hG0 b ⟨by omega, by omega⟩ z2 ⟨by omega, by omega⟩) ?_)
              rintro s36 v ⟨h_s36, z35, rfl, hz_z35⟩
              rw [h_s36]
              rcases hz_z35 with ⟨c_z35, e_z35, m_z35⟩ | ⟨e_z35, m_z35⟩
              · rw [e_z35]
                show xe none 148 60 [(0, .ref 256), (1, vi a), (2, vi b)] [vi 1] s0 0 0 _
                refine x_if_ne k148_60 (t := 67) rfl ⟨by omega, by omega⟩ (fun c37 => ?_) (fun c37 => by exfalso; omega)
                refine x_A k148_67 (fun _ => rfl) ?_
                refine x_getR k148_68 (f := 3) rfl (q := 256) (n := 62) (kd := 15) ⟨by decide, rfl⟩ (q2 := 258) (by decide) rfl ?_
                refine x_A k148_71 (fun _ => rfl) ?_
                refine x_A k148_72 (fun _ => rfl) ?_
                refine x_getI k148_73 (f := 0) rfl (q := 256) (n := 62) (kd := 15) ⟨by decide, rfl⟩ (by decide) rfl ?_
                refine x_rw (e_z2.symm) ?_
                refine x_iast k148_76 (q := 258) (n := 40) ⟨by decide, rfl⟩ (by decide) ⟨by omega, by omega⟩ ?_
                refine x_nh (fun s38 e_s38 => ?_)
                have hG_s38 : GI s38 := by rw [e_s38]; exact hG0.up (show (-1) ≤ z2 ∧ z2 ≤ 9 from ⟨by omega, by omega⟩)
                have f_s38 : FL [4224, 4288] s0 s38 := by rw [e_s38]; exact f0.up (show 4224 ∈ [4224, 4288] from by decide)
                have q39 : s38 256 1 = z1 := by rw [e_s38, x_up_q (by decide)]; exact e_z1.symm
                have q40 : s38 256 0 = z2 := by rw [e_s38, x_up_q (by decide)]; exact e_z2.symm
                have q41 : s38 258 a.toNat = z2 := by rw [e_s38]; exact x_up_same
                refine x_A k148_77 (fun _ => rfl) ?_
                refine x_getR k148_78 (f := 4) rfl (q := 256) (n := 62) (kd := 15) ⟨by decide, rfl⟩ (q2 := 259) (by decide) rfl ?_
                refine x_A k148_81 (fun _ => rfl) ?_
                refine x_A k148_82 (fun _ => rfl) ?_
                refine x_iast k148_83 (q := 259) (n := 40) ⟨by decide, rfl⟩ (by decide) ⟨by omega, by omega⟩ ?_
                refine x_nh (fun s42 e_s42 => ?_)
                have hG_s42 : GI s42 := by rw [e_s42]; exact hG_s38.up (show (-1) ≤ b ∧ b ≤ 39 from ⟨by omega, by omega⟩)
                have f_s42 : FL [4224, 4288] s0 s42 := by rw [e_s42]; exact f_s38.up (show 4288 ∈ [4224, 4288] from by decide)
                have q43 : s42 256 1 = z1 := by rw [e_s42, x_up_q (by decide)]; exact q39
                have q44 : s42 256 0 = z2 := by rw [e_s42, x_up_q (by decide)]; exact q40
                have q45 : s42 258 a.toNat = z2 := by rw [e_s42, x_up_q (by omega)]; exact q41
                have q46 : s42 259 a.toNat = b := by rw [e_s42]; exact x_up_same
                have J_e : J s42 := by rw [e_s42, e_s38]; exact J.end i0_J hG0 e_z2 ⟨by omega, by omega⟩ (by omega) (by omega)
                refine x_A k148_84 (fun _ => rfl) ?_
                refine x_A k148_85 (fun _ => rfl) ?_
                refine x_A k148_86 (fun _ => rfl) ?_
                refine x_getI k148_87 (f := 0) rfl (q := 256) (n := 62) (kd := 15) ⟨by decide, rfl⟩ (by decide) rfl ?_
                refine x_rw (q44) ?_
                refine x_callV k148_90 (y := 144) (n := 2) (w0 := 0) (w1 := 2) (as := [vi a, vi z2]) (rest := []) (by decide +kernel) (q := 256) (nq := 62) (kq := 15) ⟨by decide, rfl⟩ rfl rfl rfl rfl (xe_mono (C_X11_belowMany_256 s42 hG_s42 J_e a ⟨by omega, by omega⟩ z2 ⟨by omega, by omega⟩) ?_)
                rintro s48 v ⟨-, t_s48, z47, rfl, g_z47⟩
                rw [t_s48.nil]
                show xe none 148 93 [(0, .ref 256), (1, vi a), (2, vi b)] [vi z47] s42 0 0 _
                refine x_A k148_93 (fun _ => rfl) ?_
                refine x_isub k148_94 ?_
                refine x_top (fun z49 e_z49 => ?_)
                exact x_iret k148_95 rfl ⟨hG_s42, f_s42, z49, rfl, ⟨by omega, by omega⟩, (by unfold EnR; exact Or.inr (Or.inr ⟨by omega, by omega, fun j => by rw [e_s42, x_up_q (by decide), e_s38, x_up_at, show z2 = s0 256 0 by omega]⟩)), J_e⟩
              · rw [e_z35]
                show xe none 148 60 [(0, .ref 256), (1, vi a), (2, vi b)] [vi 0] s0 0 0 _
                refine x_if_ne k148_60 (t := 67) rfl ⟨by omega, by omega⟩ (fun c50 => by exfalso; omega) (fun c50 => ?_)
                refine x_sipush k148_63 (by decide +kernel) ?_
                exact x_iret k148_66 rfl ⟨hG0, f0, (-1003), rfl, ⟨by omega, by omega⟩, (by unfold EnR; exact Or.inr (Or.inl ⟨by omega, by omega, rfl⟩)), i0_J⟩
            · rw [e_z31]
              show xe none 148 43 [(0, .ref 256), (1, vi a), (2, vi b)] [vi 0] s0 0 0 _
              refine x_if_eq k148_43 (t := 63) rfl ⟨by omega, by omega⟩ (fun c51 => ?_) (fun c51 => by exfalso; omega)
              refine x_sipush k148_63 (by decide +kernel) ?_
              exact x_iret k148_66 rfl ⟨hG0, f0, (-1003), rfl, ⟨by omega, by omega⟩, (by unfold EnR; exact Or.inr (Or.inl ⟨by omega, by omega, rfl⟩)), i0_J⟩
      · rw [e_z26]
        show xe none 148 18 [(0, .ref 256), (1, vi a), (2, vi b)] [vi 0] s0 0 0 _
        refine x_if_ne k148_18 (t := 25) rfl ⟨by omega, by omega⟩ (fun c52 => by exfalso; omega) (fun c52 => ?_)
        refine x_sipush k148_21 (by decide +kernel) ?_
        exact x_iret k148_24 rfl ⟨hG0, f0, (-1001), rfl, ⟨by omega, by omega⟩, (by unfold EnR; exact Or.inl ⟨by omega, rfl⟩), i0_J⟩
  · rw [e_z3]
    show xe none 148 5 [(0, .ref 256), (1, vi a), (2, vi b)] [vi 0] s0 0 0 _
    refine x_if_eq k148_5 (t := 21) rfl ⟨by omega, by omega⟩ (fun c53 => ?_) (fun c53 => by exfalso; omega)
    refine x_sipush k148_21 (by decide +kernel) ?_
    exact x_iret k148_24 rfl ⟨hG0, f0, (-1001), rfl, ⟨by omega, by omega⟩, (by unfold EnR; exact Or.inl ⟨by omega, rfl⟩), i0_J⟩
theorem E_X7_parentIn_1 (s0 : xS) (hG0 : GI s0) (a : Int) (b_a : (-2147483648) ≤ a ∧ a ≤ 2147483647) (b : Int) (b_b : (-2147483648) ≤ b ∧ b ≤ 2147483647) : xe none 62 0 (lv_args 0 [.ref 1, vi a, vi b]) [] s0 0 0 (fun s' v => GI s' ∧ FL [] s0 s' ∧ ∃ z, v = some (vi z) ∧ ((-1) ≤ z ∧ z ≤ 39) ∧ (z = parC s0 b a)) := by
  have f0 : FL [] s0 s0 := FL.rf
  show xe none 62 0 [(0, .ref 1), (1, vi a), (2, vi b)] [] s0 0 0 _
  refine x_A k62_0 (fun _ => rfl) ?_
  refine x_A k62_1 (fun _ => rfl) ?_
  obtain ⟨z1, e_z1⟩ : ∃ z, z = s0 1 4 := ⟨_, rfl⟩
  have g_z1 : (1 : Int) ≤ s0 1 4 ∧ s0 1 4 ≤ 40 := hG0 1 4
  refine x_callV k62_2 (y := 59) (n := 1) (w0 := 0) (w1 := 1) (as := [vi a]) (rest := []) (by decide +kernel) (q := 1) (nq := 5) (kq := 4) ⟨by decide, rfl⟩ rfl rfl rfl rfl (xe_mono (C_X7_has_1 s0 hG0 a ⟨by omega, by omega⟩) ?_)
  rintro s3 v ⟨h_s3, z2, rfl, hz_z2⟩
  rw [h_s3]
  rcases hz_z2 with ⟨c_z2, e_z2⟩ | ⟨c_z2, e_z2⟩
  · rw [e_z2]
    show xe none 62 5 [(0, .ref 1), (1, vi a), (2, vi b)] [vi 1] s0 0 0 _
    refine x_if_eq k62_5 (t := 29) rfl ⟨by omega, by omega⟩ (fun c4 => by exfalso; omega) (fun c4 => ?_)
    refine x_A k62_8 (fun _ => rfl) ?_
    refine x_A k62_9 (fun _ => rfl) ?_
    refine x_bipush k62_10 (by decide +kernel) ?_
    refine x_callS k62_12 (y := 121) (n := 3) (w0 := 0) (w1 := 3) (as := [vi b, vi 0, vi 9]) (rest := []) (by decide +kernel) rfl rfl rfl rfl (xe_mono (C_X10_isWithin s0 hG0 b ⟨by omega, by omega⟩ 0 ⟨by omega, by omega⟩ 9 ⟨by omega, by omega⟩) ?_)
    rintro s6 v ⟨h_s6, z5, rfl, hz_z5⟩
    rw [h_s6]
    rcases hz_z5 with ⟨c_z5, e_z5⟩ | ⟨c_z5, e_z5⟩
    · rw [e_z5]
      show xe none 62 15 [(0, .ref 1), (1, vi a), (2, vi b)] [vi 1] s0 0 0 _
      refine x_if_eq k62_15 (t := 29) rfl ⟨by omega, by omega⟩ (fun c7 => by exfalso; omega) (fun c7 => ?_)
      refine x_A k62_18 (fun _ => rfl) ?_
      refine x_getR k62_19 (f := 3) rfl (q := 1) (n := 5) (kd := 4) ⟨by decide, rfl⟩ (q2 := 5) (by decide) rfl ?_
      refine x_A k62_22 (fun _ => rfl) ?_
      refine x_aald k62_23 (q := 5) (t := 23) (n := 40) ⟨by decide, rfl⟩ (by decide) (by decide) ⟨by omega, by omega⟩ ?_
      refine x_A k62_24 (fun _ => rfl) ?_
      refine x_iald k62_25 (q := (5 + 1 + a.toNat)) (n := 10) (xg_6 (by omega) (by omega)) (by decide) ⟨by omega, by omega⟩ ?_
      refine x_top (fun z8 e_z8 => ?_)
      have r_z8 := hG0 (5 + 1 + a.toNat) b.toNat
      rw [(gr_6 b.toNat (show 6 ≤ (5 + 1 + a.toNat) by omega) (by omega)).1, (gr_6 b.toNat (show 6 ≤ (5 + 1 + a.toNat) by omega) (by omega)).2.1, ← e_z8] at r_z8
      refine x_goto k62_26 (t := 30) rfl ?_
      exact x_iret k62_30 rfl ⟨hG0, f0, z8, rfl, ⟨by omega, by omega⟩, (by unfold parC; rw [if_pos (by omega)]; exact e_z8)⟩
    · rw [e_z5]
      show xe none 62 15 [(0, .ref 1), (1, vi a), (2, vi b)] [vi 0] s0 0 0 _
      refine x_if_eq k62_15 (t := 29) rfl ⟨by omega, by omega⟩ (fun c9 => ?_) (fun c9 => by exfalso; omega)
      refine x_A k62_29 (fun _ => rfl) ?_
      exact x_iret k62_30 rfl ⟨hG0, f0, (-1), rfl, ⟨by omega, by omega⟩, (by unfold parC; rw [if_neg (by omega)])⟩
  · rw [e_z2]
    show xe none 62 5 [(0, .ref 1), (1, vi a), (2, vi b)] [vi 0] s0 0 0 _
    refine x_if_eq k62_5 (t := 29) rfl ⟨by omega, by omega⟩ (fun c10 => ?_) (fun c10 => by exfalso; omega)
    refine x_A k62_29 (fun _ => rfl) ?_
    exact x_iret k62_30 rfl ⟨hG0, f0, (-1), rfl, ⟨by omega, by omega⟩, (by unfold parC; rw [if_neg (by omega)])⟩
theorem L_E_X7_pathUp_1_8 (s0 : xS) (a : Int) (b_a : (-2147483648) ≤ a ∧ a ≤ 2147483647) (b : Int) (b_b : (-2147483648) ≤ b ∧ b ≤ 2147483647)  : ∀ (n : Nat) (s : xS) (x1 : Int) (x2 : Int) (x3 : Int) (x5 : Int) (x6 : Int) (hG : GI s) (f : FL [] s0 s) (b_x1 : (-2147483648) ≤ x1 ∧ x1 ≤ 2147483647) (b_x2 : (-2147483648) ≤ x2 ∧ x2 ≤ 2147483647) (b_x3 : in64 x3) (b_x5 : (-2147483648) ≤ x5 ∧ x5 ≤ 2147483647) (b_x6 : 0 ≤ x6 ∧ x6 ≤ 40) (w_0 : x1 = a) (w_1 : x2 = b) (w_2 : ∀ k : Nat, k < 64 → ((bt x3 k = true ∨ onp s0 b (40 - x6).toNat x5 k) ↔ onp s0 b 40 a k))  (hm : (40 - x6) < (n : Int)), xe none 65 8 [(0, .ref 1), (1, vi x1), (2, vi x2), (3, vj x3), (5, vi x5), (6, vi x6)] [] s 0 0 (fun s' v => GI s' ∧ FL [] s0 s' ∧ ∃ z, v = some (vj z) ∧ in64 z ∧ (∀ k : Nat, k < 64 → (bt z k = true ↔ onp s0 b 40 a k))) := by
  intro n
  induction n with
  | zero => intro s x1 x2 x3 x5 x6 hG f b_x1 b_x2 b_x3 b_x5 b_x6 w_0 w_1 w_2  hm; exfalso; omega
  | succ n ih =>
    intro s x1 x2 x3 x5 x6 hG f b_x1 b_x2 b_x3 b_x5 b_x6 w_0 w_1 w_2  hm
    refine x_A k65_8 (fun _ => rfl) ?_
    refine x_bipush k65_10 (by decide +kernel) ?_
    refine x_ic_ge k65_12 (t := 46) rfl ⟨by omega, by omega⟩ ⟨by omega, by omega⟩ (fun c141 => ?_) (fun c141 => ?_)
    · skip
      refine x_A k65_46 (fun _ => rfl) ?_
      exact x_lret k65_47 rfl ⟨hG, f, x3, rfl, b_x3, (by rw [show (40 - x6).toNat = 0 by omega] at w_2; exact fun k hk => ⟨fun q => (w_2 k hk).mp (Or.inl q), fun q => ((w_2 k hk).mpr q).elim id (fun w => w.elim)⟩)⟩
    · skip
      refine x_A k65_15 (fun _ => rfl) ?_
      refine x_A k65_16 (fun _ => rfl) ?_
      obtain ⟨z142, e_z142⟩ : ∃ z, z = s 1 4 := ⟨_, rfl⟩
      have g_z142 : (1 : Int) ≤ s 1 4 ∧ s 1 4 ≤ 40 := hG 1 4
      refine x_callV k65_18 (y := 59) (n := 1) (w0 := 0) (w1 := 1) (as := [vi x5]) (rest := []) (by decide +kernel) (q := 1) (nq := 5) (kq := 4) ⟨by decide, rfl⟩ rfl rfl rfl rfl (xe_mono (C_X7_has_1 s hG x5 ⟨by omega, by omega⟩) ?_)
      rintro s144 v ⟨h_s144, z143, rfl, hz_z143⟩
      rw [h_s144]
      rcases hz_z143 with ⟨c_z143, e_z143⟩ | ⟨c_z143, e_z143⟩
      · rw [e_z143]
        show xe none 65 21 [(0, .ref 1), (1, vi x1), (2, vi x2), (3, vj x3), (5, vi x5), (6, vi x6)] [vi 1] s 0 0 _
        refine x_if_eq k65_21 (t := 46) rfl ⟨by omega, by omega⟩ (fun c145 => by exfalso; omega) (fun c145 => ?_)
        refine x_A k65_24 (fun _ => rfl) ?_
        refine x_lconst k65_25 (z := 1) (by decide +kernel) ?_
        refine x_A k65_26 (fun _ => rfl) ?_
        refine x_lshl1 k65_28 ⟨by omega, by omega⟩ (fun z146 b_z146 g_z146 => ?_)
        refine x_lor_b k65_29 (fun z147 b_z147 g_z147 => ?_)
        refine x_lstore_n k65_30 (ls' := [(3, vj z147), (0, .ref 1), (1, vi x1), (2, vi x2), (5, vi x5), (6, vi x6)]) (by decide) rfl ?_
        refine x_A k65_31 (fun _ => rfl) ?_
        refine x_A k65_32 (fun _ => rfl) ?_
        refine x_A k65_34 (fun _ => rfl) ?_
        refine x_callV k65_35 (y := 62) (n := 2) (w0 := 0) (w1 := 2) (as := [vi x5, vi x2]) (rest := []) (by decide +kernel) (q := 1) (nq := 5) (kq := 4) ⟨by decide, rfl⟩ rfl rfl rfl rfl (xe_mono (E_X7_parentIn_1 s hG x5 ⟨by omega, by omega⟩ x2 ⟨by omega, by omega⟩) ?_)
        rintro s149 v ⟨-, t_s149, z148, rfl, g_z148, xp_z148⟩
        rw [t_s149.nil]
        try rw [t_s149.nil] at xp_z148
        show xe none 65 38 [(3, vj z147), (0, .ref 1), (1, vi x1), (2, vi x2), (5, vi x5), (6, vi x6)] [vi z148] s 0 0 _
        refine x_istore k65_38 (ls' := [(5, vi z148), (3, vj z147), (0, .ref 1), (1, vi x1), (2, vi x2), (6, vi x6)]) (by decide) rfl ?_
        refine x_iinc k65_40 (ls' := [(6, vi (x6 + 1)), (5, vi z148), (3, vj z147), (0, .ref 1), (1, vi x1), (2, vi x2)]) rfl (by decide) rfl ?_
        refine x_goto k65_43 (t := 8) rfl ?_
        refine x_ls (l := [(0, .ref 1), (1, vi x1), (2, vi x2), (3, vj z147), (5, vi z148), (6, vi (x6 + 1))]) (show ([0, 1, 2, 3, 5, 6] : List Nat).Nodup from by decide) ⟨rfl, rfl, rfl, rfl, rfl, rfl, trivial⟩ ?_
        exact ih s x1 x2 z147 z148 (x6 + 1) hG f ⟨by omega, by omega⟩ ⟨by omega, by omega⟩ b_z147 ⟨by omega, by omega⟩ ⟨by omega, by omega⟩ (by omega) (by omega) (by rw [show (40 - x6).toNat = (40 - (x6 + 1)).toNat + 1 by omega] at w_2; rw [xp_z148, f.nil, show x2 = b by omega]; exact onp_step (by have e4 := f 1 4 (by decide); omega) w_2 g_z146 g_z147)  (by omega)
      · rw [e_z143]
        show xe none 65 21 [(0, .ref 1), (1, vi x1), (2, vi x2), (3, vj x3), (5, vi x5), (6, vi x6)] [vi 0] s 0 0 _
        refine x_if_eq k65_21 (t := 46) rfl ⟨by omega, by omega⟩ (fun c150 => ?_) (fun c150 => by exfalso; omega)
        refine x_A k65_46 (fun _ => rfl) ?_
        exact x_lret k65_47 rfl ⟨hG, f, x3, rfl, b_x3, (fun k hk => ⟨fun q => (w_2 k hk).mp (Or.inl q), fun q => ((w_2 k hk).mpr q).elim id (fun w => absurd w (onp_out (by have e4 := f 1 4 (by decide); omega) _ _))⟩)⟩
theorem E_X7_pathUp_1 (s0 : xS) (hG0 : GI s0) (a : Int) (b_a : (-2147483648) ≤ a ∧ a ≤ 2147483647) (b : Int) (b_b : (-2147483648) ≤ b ∧ b ≤ 2147483647) : xe none 65 0 (lv_args 0 [.ref 1, vi a, vi b]) [] s0 0 0 (fun s' v => GI s' ∧ FL [] s0 s' ∧ ∃ z, v = some (vj z) ∧ in64 z ∧ (∀ k : Nat, k < 64 → (bt z k = true ↔ onp s0 b 40 a k))) := by
  have f0 : FL [] s0 s0 := FL.rf
  show xe none 65 0 [(0, .ref 1), (1, vi a), (2, vi b)] [] s0 0 0 _
  refine x_lconst k65_0 (z := 0) (by decide +kernel) ?_
  refine x_lstore_n k65_1 (ls' := [(3, vj 0), (0, .ref 1), (1, vi a), (2, vi b)]) (by decide) rfl ?_
  refine x_A k65_2 (fun _ => rfl) ?_
  refine x_istore k65_3 (ls' := [(5, vi a), (3, vj 0), (0, .ref 1), (1, vi a), (2, vi b)]) (by decide) rfl ?_
  refine x_A k65_5 (fun _ => rfl) ?_
  refine x_istore k65_6 (ls' := [(6, vi 0), (5, vi a), (3, vj 0), (0, .ref 1), (1, vi a), (2, vi b)]) (by decide) rfl ?_
  refine x_ls (l := [(0, .ref 1), (1, vi a), (2, vi b), (3, vj 0), (5, vi a), (6, vi 0)]) (show ([0, 1, 2, 3, 5, 6] : List Nat).Nodup from by decide) ⟨rfl, rfl, rfl, rfl, rfl, rfl, trivial⟩ ?_
  exact L_E_X7_pathUp_1_8 s0 a b_a b b_b  (((40 - 0) + 1 : Int)).toNat s0 a b 0 a 0 hG0 f0 ⟨by omega, by omega⟩ ⟨by omega, by omega⟩ ⟨by omega, by omega⟩ ⟨by omega, by omega⟩ ⟨by omega, by omega⟩ (by omega) (by omega) (fun k hk => by rw [show ((40 : Int) - 0).toNat = 40 from rfl]; exact ⟨fun q => q.elim (fun w => by rw [bt_0] at w; cases w) id, Or.inr⟩)  (by omega)
theorem E_X7_isBelow_1 (s0 : xS) (hG0 : GI s0) (a : Int) (b_a : (-2147483648) ≤ a ∧ a ≤ 2147483647) (b : Int) (b_b : (-2147483648) ≤ b ∧ b ≤ 2147483647) (d : Int) (b_d : (-2147483648) ≤ d ∧ d ≤ 2147483647) : xe none 66 0 (lv_args 0 [.ref 1, vi a, vi b, vi d]) [] s0 0 0 (fun s' v => GI s' ∧ FL [] s0 s' ∧ ∃ z, v = some (vi z) ∧ (0 ≤ z ∧ z ≤ 1) ∧ ((z = 1 ∧ (0 ≤ b ∧ b < s0 1 4) ∧ onp s0 d 40 a b) ∨ (z = 0 ∧ ¬ ((0 ≤ b ∧ b < s0 1 4) ∧ onp s0 d 40 a b)))) := by
  have f0 : FL [] s0 s0 := FL.rf
  show xe none 66 0 [(0, .ref 1), (1, vi a), (2, vi b), (3, vi d)] [] s0 0 0 _
  refine x_A k66_0 (fun _ => rfl) ?_
  refine x_A k66_1 (fun _ => rfl) ?_
  obtain ⟨z1, e_z1⟩ : ∃ z, z = s0 1 4 := ⟨_, rfl⟩
  have g_z1 : (1 : Int) ≤ s0 1 4 ∧ s0 1 4 ≤ 40 := hG0 1 4
  refine x_callV k66_2 (y := 59) (n := 1) (w0 := 0) (w1 := 1) (as := [vi b]) (rest := []) (by decide +kernel) (q := 1) (nq := 5) (kq := 4) ⟨by decide, rfl⟩ rfl rfl rfl rfl (xe_mono (C_X7_has_1 s0 hG0 b ⟨by omega, by omega⟩) ?_)
  rintro s3 v ⟨h_s3, z2, rfl, hz_z2⟩
  rw [h_s3]
  rcases hz_z2 with ⟨c_z2, e_z2⟩ | ⟨c_z2, e_z2⟩
  · rw [e_z2]
    show xe none 66 5 [(0, .ref 1), (1, vi a), (2, vi b), (3, vi d)] [vi 1] s0 0 0 _
    refine x_if_eq k66_5 (t := 27) rfl ⟨by omega, by omega⟩ (fun c4 => by exfalso; omega) (fun c4 => ?_)
    refine x_A k66_8 (fun _ => rfl) ?_
    refine x_A k66_9 (fun _ => rfl) ?_
    refine x_A k66_10 (fun _ => rfl) ?_
    refine x_callV k66_11 (y := 65) (n := 2) (w0 := 0) (w1 := 2) (as := [vi a, vi d]) (rest := []) (by decide +kernel) (q := 1) (nq := 5) (kq := 4) ⟨by decide, rfl⟩ rfl rfl rfl rfl (xe_mono (E_X7_pathUp_1 s0 hG0 a ⟨by omega, by omega⟩ d ⟨by omega, by omega⟩) ?_)
    rintro s6 v ⟨-, t_s6, z5, rfl, b_z5, xp_z5⟩
    rw [t_s6.nil]
    try rw [t_s6.nil] at xp_z5
    show xe none 66 14 [(0, .ref 1), (1, vi a), (2, vi b), (3, vi d)] [vj z5] s0 0 0 _
    refine x_A k66_14 (fun _ => rfl) ?_
    refine x_lushr_b k66_15 ⟨by omega, by omega⟩ (fun z7 b_z7 g_z7 => ?_)
    refine x_lconst k66_16 (z := 1) (by decide +kernel) ?_
    refine x_land_b k66_17 (fun z8 b_z8 g_z8 => ?_)
    have bl := bt_low b_z8 g_z8
    have bu := g_z7 0
    have px := xp_z5 b.toNat (by omega)
    rw [show ((b.toNat : Nat) : Int) = b by omega] at px
    refine x_lconst k66_18 (z := 0) (by decide +kernel) ?_
    refine x_lc_eq k66_19 k66_20 (t := 27) rfl b_z8 ⟨by omega, by omega⟩ (fun c9 => ?_) (fun c9 => ?_)
    · skip
      refine x_A k66_27 (fun _ => rfl) ?_
      exact x_zret k66_28 rfl ⟨by omega, by omega⟩ ⟨hG0, f0, 0, rfl, ⟨by omega, by omega⟩, Or.inr ⟨rfl, fun w => bl.elim (fun q => by have h9 := px.mpr w.2; rw [show bt z5 b.toNat = false from bu.symm.trans q.2] at h9; cases h9) (fun q => absurd (show z8 = 0 by omega) q.1)⟩⟩
    · skip
      refine x_A k66_23 (fun _ => rfl) ?_
      refine x_goto k66_24 (t := 28) rfl ?_
      exact x_zret k66_28 rfl ⟨by omega, by omega⟩ ⟨hG0, f0, 1, rfl, ⟨by omega, by omega⟩, Or.inl ⟨rfl, by omega, bl.elim (fun q => absurd q.1 (by omega)) (fun q => px.mp (bu.symm.trans q.2))⟩⟩
  · rw [e_z2]
    show xe none 66 5 [(0, .ref 1), (1, vi a), (2, vi b), (3, vi d)] [vi 0] s0 0 0 _
    refine x_if_eq k66_5 (t := 27) rfl ⟨by omega, by omega⟩ (fun c10 => ?_) (fun c10 => by exfalso; omega)
    refine x_A k66_27 (fun _ => rfl) ?_
    exact x_zret k66_28 rfl ⟨by omega, by omega⟩ ⟨hG0, f0, 0, rfl, ⟨by omega, by omega⟩, Or.inr ⟨rfl, fun w => absurd w.1 (by omega)⟩⟩
theorem L_E_X7_countBelow_1_5 (s0 : xS) (a : Int) (b_a : (-2147483648) ≤ a ∧ a ≤ 2147483647) (b : Int) (b_b : (-2147483648) ≤ b ∧ b ≤ 2147483647)  : ∀ (n : Nat) (s : xS) (x1 : Int) (x2 : Int) (x3 : Int) (x4 : Int) (x1000 : Int) (hG : GI s) (f : FL [] s0 s) (b_x1 : (-2147483648) ≤ x1 ∧ x1 ≤ 2147483647) (b_x2 : (-2147483648) ≤ x2 ∧ x2 ≤ 2147483647) (b_x3 : 0 ≤ x3 ∧ x3 ≤ 60) (b_x4 : 0 ≤ x4 ∧ x4 ≤ 40) (b_x1000 : 1 ≤ x1000 ∧ x1000 ≤ 40) (r_3_4 : x3 ≤ x4 + 0) (r_4_1000 : x4 ≤ x1000 + 0) (w_0 : x1 = a) (w_1 : x2 = b) (w_2 : x1000 = s0 1 4) (w_3 : x4 ≤ x1000) (w_4 : x3 = ctp (fun k => (0 ≤ a ∧ a < s0 1 4) ∧ onp s0 b 40 (k : Int) a) x4.toNat) (e_x1000 : x1000 = s 1 4)  (hm : (40 - x4) < (n : Int)), xe none 67 5 [(0, .ref 1), (1, vi x1), (2, vi x2), (3, vi x3), (4, vi x4)] [] s 0 0 (fun s' v => GI s' ∧ FL [] s0 s' ∧ ∃ z, v = some (vi z) ∧ (0 ≤ z ∧ z ≤ 40) ∧ (z = ctp (fun k => (0 ≤ a ∧ a < s0 1 4) ∧ onp s0 b 40 (k : Int) a) (s0 1 4).toNat)) := by
  intro n
  induction n with
  | zero => intro s x1 x2 x3 x4 x1000 hG f b_x1 b_x2 b_x3 b_x4 b_x1000 r_3_4 r_4_1000 w_0 w_1 w_2 w_3 w_4 e_x1000  hm; exfalso; omega
  | succ n ih =>
    intro s x1 x2 x3 x4 x1000 hG f b_x1 b_x2 b_x3 b_x4 b_x1000 r_3_4 r_4_1000 w_0 w_1 w_2 w_3 w_4 e_x1000  hm
    refine x_A k67_5 (fun _ => rfl) ?_
    refine x_A k67_7 (fun _ => rfl) ?_
    refine x_getI k67_8 (f := 4) rfl (q := 1) (n := 5) (kd := 4) ⟨by decide, rfl⟩ (by decide) rfl ?_
    refine x_rw (e_x1000.symm) ?_
    refine x_ic_ge k67_11 (t := 34) rfl ⟨by omega, by omega⟩ ⟨by omega, by omega⟩ (fun c75 => ?_) (fun c75 => ?_)
    · skip
      refine x_A k67_34 (fun _ => rfl) ?_
      exact x_iret k67_35 rfl ⟨hG, f, x3, rfl, ⟨by omega, by omega⟩, (by rw [show (s0 1 4).toNat = x4.toNat by omega]; exact w_4)⟩
    · skip
      refine x_A k67_14 (fun _ => rfl) ?_
      refine x_A k67_15 (fun _ => rfl) ?_
      refine x_A k67_17 (fun _ => rfl) ?_
      refine x_A k67_18 (fun _ => rfl) ?_
      refine x_callV k67_19 (y := 66) (n := 3) (w0 := 0) (w1 := 3) (as := [vi x4, vi x1, vi x2]) (rest := []) (by decide +kernel) (q := 1) (nq := 5) (kq := 4) ⟨by decide, rfl⟩ rfl rfl rfl rfl (xe_mono (E_X7_isBelow_1 s hG x4 ⟨by omega, by omega⟩ x1 ⟨by omega, by omega⟩ x2 ⟨by omega, by omega⟩) ?_)
      rintro s77 v ⟨-, t_s77, z76, rfl, g_z76, xp_z76⟩
      rw [t_s77.nil]
      try rw [t_s77.nil] at xp_z76
      show xe none 67 22 [(0, .ref 1), (1, vi x1), (2, vi x2), (3, vi x3), (4, vi x4)] [vi z76] s 0 0 _
      have cs := ctp_s (fun k => (0 ≤ a ∧ a < s0 1 4) ∧ onp s0 b 40 (k : Int) a) (k := x4) (by omega)
      have ck : (z76 = 1 → ctp (fun k => (0 ≤ a ∧ a < s0 1 4) ∧ onp s0 b 40 (k : Int) a) (x4 + 1).toNat = ctp (fun k => (0 ≤ a ∧ a < s0 1 4) ∧ onp s0 b 40 (k : Int) a) x4.toNat + 1) ∧ (z76 = 0 → ctp (fun k => (0 ≤ a ∧ a < s0 1 4) ∧ onp s0 b 40 (k : Int) a) (x4 + 1).toNat = ctp (fun k => (0 ≤ a ∧ a < s0 1 4) ∧ onp s0 b 40 (k : Int) a) x4.toNat) := by
        have e4 : ((x4.toNat : Nat) : Int) = x4 := by omega
        have e1 : x1 = a := by omega
        have e2 : x2 = b := by omega
        have xq := xp_z76
        rw [f.nil, e1, e2] at xq
        rw [e4] at cs
        exact ⟨fun hz => cs.1 (xq.elim (fun q => q.2) (fun q => by exfalso; omega)), fun hz => cs.2 (xq.elim (fun q => by exfalso; omega) (fun q => q.2))⟩
      refine x_if_eq k67_22 (t := 28) rfl ⟨by omega, by omega⟩ (fun c78 => ?_) (fun c78 => ?_)
      · skip
        refine x_iinc k67_28 (ls' := [(4, vi (x4 + 1)), (0, .ref 1), (1, vi x1), (2, vi x2), (3, vi x3)]) rfl (by decide) rfl ?_
        refine x_goto k67_31 (t := 5) rfl ?_
        refine x_ls (l := [(0, .ref 1), (1, vi x1), (2, vi x2), (3, vi x3), (4, vi (x4 + 1))]) (show ([0, 1, 2, 3, 4] : List Nat).Nodup from by decide) ⟨rfl, rfl, rfl, rfl, rfl, trivial⟩ ?_
        exact ih s x1 x2 x3 (x4 + 1) x1000 hG f ⟨by omega, by omega⟩ ⟨by omega, by omega⟩ ⟨by omega, by omega⟩ ⟨by omega, by omega⟩ ⟨by omega, by omega⟩ (by omega) (by omega) (by omega) (by omega) (by omega) (by omega) (by omega) (e_x1000.symm).symm  (by omega)
      · skip
        refine x_iinc k67_25 (ls' := [(3, vi (x3 + 1)), (0, .ref 1), (1, vi x1), (2, vi x2), (4, vi x4)]) rfl (by decide) rfl ?_
        refine x_iinc k67_28 (ls' := [(4, vi (x4 + 1)), (3, vi (x3 + 1)), (0, .ref 1), (1, vi x1), (2, vi x2)]) rfl (by decide) rfl ?_
        refine x_goto k67_31 (t := 5) rfl ?_
        refine x_ls (l := [(0, .ref 1), (1, vi x1), (2, vi x2), (3, vi (x3 + 1)), (4, vi (x4 + 1))]) (show ([0, 1, 2, 3, 4] : List Nat).Nodup from by decide) ⟨rfl, rfl, rfl, rfl, rfl, trivial⟩ ?_
        exact ih s x1 x2 (x3 + 1) (x4 + 1) x1000 hG f ⟨by omega, by omega⟩ ⟨by omega, by omega⟩ ⟨by omega, by omega⟩ ⟨by omega, by omega⟩ ⟨by omega, by omega⟩ (by omega) (by omega) (by omega) (by omega) (by omega) (by omega) (by omega) (e_x1000.symm).symm  (by omega)
theorem E_X7_countBelow_1 (s0 : xS) (hG0 : GI s0) (a : Int) (b_a : (-2147483648) ≤ a ∧ a ≤ 2147483647) (b : Int) (b_b : (-2147483648) ≤ b ∧ b ≤ 2147483647) : xe none 67 0 (lv_args 0 [.ref 1, vi a, vi b]) [] s0 0 0 (fun s' v => GI s' ∧ FL [] s0 s' ∧ ∃ z, v = some (vi z) ∧ (0 ≤ z ∧ z ≤ 40) ∧ (z = ctp (fun k => (0 ≤ a ∧ a < s0 1 4) ∧ onp s0 b 40 (k : Int) a) (s0 1 4).toNat)) := by
  have f0 : FL [] s0 s0 := FL.rf
  show xe none 67 0 [(0, .ref 1), (1, vi a), (2, vi b)] [] s0 0 0 _
  refine x_A k67_0 (fun _ => rfl) ?_
  refine x_istore_n k67_1 (ls' := [(3, vi 0), (0, .ref 1), (1, vi a), (2, vi b)]) (by decide) rfl ?_
  refine x_A k67_2 (fun _ => rfl) ?_
  refine x_istore k67_3 (ls' := [(4, vi 0), (3, vi 0), (0, .ref 1), (1, vi a), (2, vi b)]) (by decide) rfl ?_
  obtain ⟨z79, e_z79⟩ : ∃ z, z = s0 1 4 := ⟨_, rfl⟩
  have g_z79 : (1 : Int) ≤ s0 1 4 ∧ s0 1 4 ≤ 40 := hG0 1 4
  refine x_ls (l := [(0, .ref 1), (1, vi a), (2, vi b), (3, vi 0), (4, vi 0)]) (show ([0, 1, 2, 3, 4] : List Nat).Nodup from by decide) ⟨rfl, rfl, rfl, rfl, rfl, trivial⟩ ?_
  exact L_E_X7_countBelow_1_5 s0 a b_a b b_b  (((40 - 0) + 1 : Int)).toNat s0 a b 0 0 z79 hG0 f0 ⟨by omega, by omega⟩ ⟨by omega, by omega⟩ ⟨by omega, by omega⟩ ⟨by omega, by omega⟩ ⟨by omega, by omega⟩ (by omega) (by omega) (by omega) (by omega) (by omega) (by omega) (show _ = _ from rfl) (e_z79.symm).symm  (by omega)
theorem L_E_X7_setParent_1_16 (s0 : xS) (a : Int) (b_a : (-2147483648) ≤ a ∧ a ≤ 2147483647) (b : Int) (b_b : (-1) ≤ b ∧ b ≤ 39) (d : Int) (b_d : 0 ≤ d ∧ d ≤ 9)  : ∀ (n : Nat) (s : xS) (x1 : Int) (x2 : Int) (x3 : Int) (x4 : Int) (hG : GI s) (f : FL [384] s0 s) (b_x1 : 0 ≤ x1 ∧ x1 ≤ 39) (b_x2 : (-1) ≤ x2 ∧ x2 ≤ 39) (b_x3 : 0 ≤ x3 ∧ x3 ≤ 9) (b_x4 : 0 ≤ x4 ∧ x4 ≤ 10) (w_0 : x1 = a) (w_1 : x2 = b) (w_2 : d ≤ x4) (w_3 : 0 ≤ a ∧ a < s0 1 4) (w_4 : ∀ r j : Nat, 6 ≤ r → r ≤ 45 → s r j = if r = 5 + 1 + a.toNat ∧ d ≤ (j : Int) ∧ (j : Int) < x4 then b else s0 r j)  (hm : (10 - x4) < (n : Int)), xe none 61 16 [(0, .ref 1), (1, vi x1), (2, vi x2), (3, vi x3), (4, vi x4)] [] s 0 0 (fun s' v => GI s' ∧ FL [384] s0 s' ∧ v = none ∧ ((¬ (0 ≤ a ∧ a < s0 1 4) ∧ ∀ r j : Nat, 6 ≤ r → r ≤ 45 → s' r j = s0 r j) ∨ ((0 ≤ a ∧ a < s0 1 4) ∧ ∀ r j : Nat, 6 ≤ r → r ≤ 45 → s' r j = if r = 5 + 1 + a.toNat ∧ d ≤ (j : Int) ∧ (j : Int) < 10 then b else s0 r j))) := by
  intro n
  induction n with
  | zero => intro s x1 x2 x3 x4 hG f b_x1 b_x2 b_x3 b_x4 w_0 w_1 w_2 w_3 w_4  hm; exfalso; omega
  | succ n ih =>
    intro s x1 x2 x3 x4 hG f b_x1 b_x2 b_x3 b_x4 w_0 w_1 w_2 w_3 w_4  hm
    refine x_A k61_16 (fun _ => rfl) ?_
    refine x_bipush k61_18 (by decide +kernel) ?_
    refine x_ic_ge k61_20 (t := 39) rfl ⟨by omega, by omega⟩ ⟨by omega, by omega⟩ (fun c27 => ?_) (fun c27 => ?_)
    · skip
      exact x_vret k61_39 rfl ⟨hG, f, rfl, Or.inr ⟨by omega, by rw [show x4 = 10 by omega] at w_4; exact w_4⟩⟩
    · skip
      refine x_A k61_23 (fun _ => rfl) ?_
      refine x_getR k61_24 (f := 3) rfl (q := 1) (n := 5) (kd := 4) ⟨by decide, rfl⟩ (q2 := 5) (by decide) rfl ?_
      refine x_A k61_27 (fun _ => rfl) ?_
      refine x_aald k61_28 (q := 5) (t := 23) (n := 40) ⟨by decide, rfl⟩ (by decide) (by decide) ⟨by omega, by omega⟩ ?_
      refine x_A k61_29 (fun _ => rfl) ?_
      refine x_A k61_31 (fun _ => rfl) ?_
      refine x_iast k61_32 (q := (5 + 1 + x1.toNat)) (n := 10) (xg_6 (by omega) (by omega)) (by decide) ⟨by omega, by omega⟩ ?_
      refine x_nh (fun s28 e_s28 => ?_)
      have w29 := gr_6 x4.toNat (show 6 ≤ (5 + 1 + x1.toNat) by omega) (by omega)
      have hG_s28 : GI s28 := by rw [e_s28]; exact hG.up (by rw [w29.1, w29.2.1]; exact (show (-1) ≤ x2 ∧ x2 ≤ 39 from ⟨by omega, by omega⟩))
      have f_s28 : FL [384] s0 s28 := by rw [e_s28]; exact f.up (by rw [w29.2.2]; decide)
      have q30 : s28 (5 + 1 + x1.toNat) x4.toNat = x2 := by rw [e_s28]; exact x_up_same
      refine x_iinc k61_33 (ls' := [(4, vi (x4 + 1)), (0, .ref 1), (1, vi x1), (2, vi x2), (3, vi x3)]) rfl (by decide) rfl ?_
      refine x_goto k61_36 (t := 16) rfl ?_
      refine x_ls (l := [(0, .ref 1), (1, vi x1), (2, vi x2), (3, vi x3), (4, vi (x4 + 1))]) (show ([0, 1, 2, 3, 4] : List Nat).Nodup from by decide) ⟨rfl, rfl, rfl, rfl, rfl, trivial⟩ ?_
      exact ih s28 x1 x2 x3 (x4 + 1) hG_s28 f_s28 ⟨by omega, by omega⟩ ⟨by omega, by omega⟩ ⟨by omega, by omega⟩ ⟨by omega, by omega⟩ (by omega) (by omega) (by omega) (by omega) (by rw [e_s28, show x1 = a by omega, show x2 = b by omega]; exact sp_up w_4 (by omega) (by omega))  (by omega)
theorem E_X7_setParent_1 (s0 : xS) (hG0 : GI s0) (a : Int) (b_a : (-2147483648) ≤ a ∧ a ≤ 2147483647) (b : Int) (b_b : (-1) ≤ b ∧ b ≤ 39) (d : Int) (b_d : 0 ≤ d ∧ d ≤ 9) (p_1_4 : 1 ≤ s0 1 4 ∧ s0 1 4 ≤ 40) : xe none 61 0 (lv_args 0 [.ref 1, vi a, vi b, vi d]) [] s0 0 0 (fun s' v => GI s' ∧ FL [384] s0 s' ∧ v = none ∧ ((¬ (0 ≤ a ∧ a < s0 1 4) ∧ ∀ r j : Nat, 6 ≤ r → r ≤ 45 → s' r j = s0 r j) ∨ ((0 ≤ a ∧ a < s0 1 4) ∧ ∀ r j : Nat, 6 ≤ r → r ≤ 45 → s' r j = if r = 5 + 1 + a.toNat ∧ d ≤ (j : Int) ∧ (j : Int) < 10 then b else s0 r j))) := by
  have f0 : FL [384] s0 s0 := FL.rf
  show xe none 61 0 [(0, .ref 1), (1, vi a), (2, vi b), (3, vi d)] [] s0 0 0 _
  obtain ⟨z31, e_z31⟩ : ∃ z, z = s0 1 4 := ⟨_, rfl⟩
  have g_z31 : (1 : Int) ≤ s0 1 4 ∧ s0 1 4 ≤ 40 := hG0 1 4
  refine x_A k61_0 (fun _ => rfl) ?_
  refine x_A k61_1 (fun _ => rfl) ?_
  refine x_callV k61_2 (y := 59) (n := 1) (w0 := 0) (w1 := 1) (as := [vi a]) (rest := []) (by decide +kernel) (q := 1) (nq := 5) (kq := 4) ⟨by decide, rfl⟩ rfl rfl rfl rfl (xe_mono (C_X7_has_1 s0 hG0 a ⟨by omega, by omega⟩) ?_)
  rintro s33 v ⟨h_s33, z32, rfl, hz_z32⟩
  rw [h_s33]
  rcases hz_z32 with ⟨c_z32, e_z32⟩ | ⟨c_z32, e_z32⟩
  · rw [e_z32]
    show xe none 61 5 [(0, .ref 1), (1, vi a), (2, vi b), (3, vi d)] [vi 1] s0 0 0 _
    refine x_if_ne k61_5 (t := 9) rfl ⟨by omega, by omega⟩ (fun c34 => ?_) (fun c34 => by exfalso; omega)
    refine x_A k61_9 (fun _ => rfl) ?_
    refine x_A k61_10 (fun _ => rfl) ?_
    refine x_callS k61_11 (y := 220) (n := 2) (w0 := 0) (w1 := 2) (as := [vi 0, vi d]) (rest := []) (by decide +kernel) rfl rfl rfl rfl (xe_mono (C_J9_max_7cf53 s0 hG0 0 ⟨by omega, by omega⟩ d ⟨by omega, by omega⟩) ?_)
    rintro s36 v ⟨h_s36, z35, rfl, g_z35⟩
    rw [h_s36]
    show xe none 61 14 [(0, .ref 1), (1, vi a), (2, vi b), (3, vi d)] [vi z35] s0 0 0 _
    refine x_istore k61_14 (ls' := [(4, vi z35), (0, .ref 1), (1, vi a), (2, vi b), (3, vi d)]) (by decide) rfl ?_
    refine x_ls (l := [(0, .ref 1), (1, vi a), (2, vi b), (3, vi d), (4, vi z35)]) (show ([0, 1, 2, 3, 4] : List Nat).Nodup from by decide) ⟨rfl, rfl, rfl, rfl, rfl, trivial⟩ ?_
    exact L_E_X7_setParent_1_16 s0 a b_a b b_b d b_d  (((10 - z35) + 1 : Int)).toNat s0 a b d z35 hG0 f0 ⟨by omega, by omega⟩ ⟨by omega, by omega⟩ ⟨by omega, by omega⟩ ⟨by omega, by omega⟩ (by omega) (by omega) (by omega) (by omega) (fun r j _ _ => by rw [if_neg (by omega)])  (by omega)
  · rw [e_z32]
    show xe none 61 5 [(0, .ref 1), (1, vi a), (2, vi b), (3, vi d)] [vi 0] s0 0 0 _
    refine x_if_ne k61_5 (t := 9) rfl ⟨by omega, by omega⟩ (fun c37 => by exfalso; omega) (fun c37 => ?_)
    exact x_vret k61_8 rfl ⟨hG0, f0, rfl, Or.inl ⟨by omega, fun _ _ _ _ => rfl⟩⟩
theorem L_E_X11_isBelow_256_25 (s0 : xS) (hJ0 : J s0) (a : Int) (b_a : (-2147483648) ≤ a ∧ a ≤ 2147483647) (b : Int) (b_b : 0 ≤ b ∧ b ≤ 39) (d : Int) (b_d : 0 ≤ d ∧ d ≤ 9) (rk : Int → Int → Nat) (hrk : JP1 s0 rk)  : ∀ (n : Nat) (s : xS) (x1 : Int) (x2 : Int) (x3 : Int) (x4 : Int) (hG : GI s) (f : FL [] s0 s) (b_x1 : (-2147483648) ≤ x1 ∧ x1 ≤ 2147483647) (b_x2 : 0 ≤ x2 ∧ x2 ≤ 39) (b_x3 : 0 ≤ x3 ∧ x3 ≤ 9) (b_x4 : (-1) ≤ x4 ∧ x4 ≤ 39) (w_0 : x2 = b) (w_1 : x3 = d) (w_2 : 0 ≤ x4 → ((0 ≤ a ∧ a < s0 256 1 ∧ s0 257 a.toNat ≤ d) ∧ b < s0 256 1 ∧ s0 257 b.toNat ≤ d)) (w_3 : ((0 ≤ a ∧ a < s0 256 1 ∧ s0 257 a.toNat ≤ d) ∧ b < s0 256 1 ∧ s0 257 b.toNat ≤ d) → ((∃ k, xup s0 d k a = b) ↔ ∃ k, xup s0 d k x4 = b))  (hm : ((rkm (rk x3) x4 : Nat) : Int) < (n : Int)), xe none 143 25 [(0, .ref 256), (1, vi x1), (2, vi x2), (3, vi x3), (4, vi x4)] [] s 0 0 (fun s' v => GI s' ∧ FL [] s0 s' ∧ ∃ z, v = some (vi z) ∧ (0 ≤ z ∧ z ≤ 1) ∧ ((z = 1 ∧ ((0 ≤ a ∧ a < s0 256 1 ∧ s0 257 a.toNat ≤ d) ∧ b < s0 256 1 ∧ s0 257 b.toNat ≤ d) ∧ ∃ k, xup s0 d k a = b) ∨ (z = 0 ∧ ¬ (((0 ≤ a ∧ a < s0 256 1 ∧ s0 257 a.toNat ≤ d) ∧ b < s0 256 1 ∧ s0 257 b.toNat ≤ d) ∧ ∃ k, xup s0 d k a = b)))) := by
  intro n
  induction n with
  | zero => intro s x1 x2 x3 x4 hG f b_x1 b_x2 b_x3 b_x4 w_0 w_1 w_2 w_3  hm; exfalso; omega
  | succ n ih =>
    intro s x1 x2 x3 x4 hG f b_x1 b_x2 b_x3 b_x4 w_0 w_1 w_2 w_3  hm
    refine x_A k143_25 (fun _ => rfl) ?_
    refine x_if_lt k143_27 (t := 53) rfl ⟨by omega, by omega⟩ (fun c40 => ?_) (fun c40 => ?_)
    · skip
      refine x_A k143_53 (fun _ => rfl) ?_
      refine x_if_lt k143_55 (t := 62) rfl ⟨by omega, by omega⟩ (fun c41 => ?_) (fun c41 => by exfalso; omega)
      refine x_A k143_62 (fun _ => rfl) ?_
      exact x_zret k143_63 rfl ⟨by omega, by omega⟩ ⟨hG, f, 0, rfl, ⟨by omega, by omega⟩, Or.inr ⟨rfl, fun w => by obtain ⟨k, hk⟩ := (w_3 w.1).mp w.2; rw [xup_neg k (by omega)] at hk; omega⟩⟩
    · skip
      refine x_A k143_30 (fun _ => rfl) ?_
      refine x_A k143_32 (fun _ => rfl) ?_
      refine x_ic_eq k143_33 (t := 53) rfl ⟨by omega, by omega⟩ ⟨by omega, by omega⟩ (fun c42 => ?_) (fun c42 => ?_)
      · skip
        refine x_A k143_53 (fun _ => rfl) ?_
        refine x_if_lt k143_55 (t := 62) rfl ⟨by omega, by omega⟩ (fun c43 => by exfalso; omega) (fun c43 => ?_)
        refine x_A k143_58 (fun _ => rfl) ?_
        refine x_goto k143_59 (t := 63) rfl ?_
        exact x_zret k143_63 rfl ⟨by omega, by omega⟩ ⟨hG, f, 1, rfl, ⟨by omega, by omega⟩, Or.inl ⟨rfl, w_2 (by omega), (w_3 (w_2 (by omega))).mpr ⟨0, (show x4 = b by omega)⟩⟩⟩
      · skip
        refine x_A k143_36 (fun _ => rfl) ?_
        refine x_getR k143_37 (f := 5) rfl (q := 256) (n := 62) (kd := 15) ⟨by decide, rfl⟩ (q2 := 260) (by decide) rfl ?_
        refine x_bipush k143_40 (by decide +kernel) ?_
        refine x_A k143_42 (fun _ => rfl) ?_
        refine x_imul k143_44 ?_
        refine x_top (fun z44 e_z44 => ?_)
        refine x_A k143_45 (fun _ => rfl) ?_
        refine x_iadd k143_46 ?_
        refine x_top (fun z45 e_z45 => ?_)
        refine x_iald k143_47 (q := 260) (n := 400) ⟨by decide, rfl⟩ (by decide) ⟨by omega, by omega⟩ ?_
        refine x_top (fun z46 e_z46 => ?_)
        have g_z46 : (-1) ≤ s 260 z45.toNat ∧ s 260 z45.toNat ≤ 39 := hG 260 z45.toNat
        have d_z46 := (hrk.fl f (by decide)).dn x4 x3 ⟨by omega, by omega⟩ ⟨by omega, by omega⟩
        rw [show 10 * x4 + x3 = z45 by omega, e_z46.symm] at d_z46
        have pe_z46 : s0 260 (10 * x4 + d).toNat = z46 := by rw [← f 260 _ (show 4352 ∉ _ from by decide), show 10 * x4 + d = z45 by omega]; exact e_z46.symm
        refine x_istore k143_48 (ls' := [(4, vi z46), (0, .ref 256), (1, vi x1), (2, vi x2), (3, vi x3)]) (by decide) rfl ?_
        refine x_goto k143_50 (t := 25) rfl ?_
        refine x_ls (l := [(0, .ref 256), (1, vi x1), (2, vi x2), (3, vi x3), (4, vi z46)]) (show ([0, 1, 2, 3, 4] : List Nat).Nodup from by decide) ⟨rfl, rfl, rfl, rfl, rfl, trivial⟩ ?_
        exact ih s x1 x2 x3 z46 hG f ⟨by omega, by omega⟩ ⟨by omega, by omega⟩ ⟨by omega, by omega⟩ ⟨by omega, by omega⟩ (by omega) (by omega) (fun _ => w_2 (by omega)) (fun h1 => (w_3 h1).trans ((xup_ex (by omega) (by omega)).trans (by rw [pe_z46])))  (by omega)
theorem E_X11_isBelow_256 (s0 : xS) (hG0 : GI s0) (hJ0 : J s0) (a : Int) (b_a : (-2147483648) ≤ a ∧ a ≤ 2147483647) (b : Int) (b_b : 0 ≤ b ∧ b ≤ 39) (d : Int) (b_d : 0 ≤ d ∧ d ≤ 9) : xe none 143 0 (lv_args 0 [.ref 256, vi a, vi b, vi d]) [] s0 0 0 (fun s' v => GI s' ∧ FL [] s0 s' ∧ ∃ z, v = some (vi z) ∧ (0 ≤ z ∧ z ≤ 1) ∧ ((z = 1 ∧ ((0 ≤ a ∧ a < s0 256 1 ∧ s0 257 a.toNat ≤ d) ∧ b < s0 256 1 ∧ s0 257 b.toNat ≤ d) ∧ ∃ k, xup s0 d k a = b) ∨ (z = 0 ∧ ¬ (((0 ≤ a ∧ a < s0 256 1 ∧ s0 257 a.toNat ≤ d) ∧ b < s0 256 1 ∧ s0 257 b.toNat ≤ d) ∧ ∃ k, xup s0 d k a = b)))) := by
  have f0 : FL [] s0 s0 := FL.rf
  show xe none 143 0 [(0, .ref 256), (1, vi a), (2, vi b), (3, vi d)] [] s0 0 0 _
  obtain ⟨rk, hrk⟩ := hJ0.2.1
  refine x_A k143_0 (fun _ => rfl) ?_
  refine x_A k143_1 (fun _ => rfl) ?_
  refine x_A k143_2 (fun _ => rfl) ?_
  obtain ⟨z47, e_z47⟩ : ∃ z, z = s0 256 1 := ⟨_, rfl⟩
  have g_z47 : (1 : Int) ≤ s0 256 1 ∧ s0 256 1 ≤ 40 := hG0 256 1
  refine x_callV k143_3 (y := 141) (n := 2) (w0 := 0) (w1 := 2) (as := [vi a, vi d]) (rest := []) (by decide +kernel) (q := 256) (nq := 62) (kq := 15) ⟨by decide, rfl⟩ rfl rfl rfl rfl (xe_mono (C_X11_isTold_256 s0 hG0 a ⟨by omega, by omega⟩ d ⟨by omega, by omega⟩) ?_)
  rintro s49 v ⟨h_s49, z48, rfl, hz_z48⟩
  rw [h_s49]
  rcases hz_z48 with ⟨c_z48, e_z48, m_z48⟩ | ⟨e_z48, m_z48⟩
  · rw [e_z48]
    show xe none 143 6 [(0, .ref 256), (1, vi a), (2, vi b), (3, vi d)] [vi 1] s0 0 0 _
    refine x_if_eq k143_6 (t := 22) rfl ⟨by omega, by omega⟩ (fun c50 => by exfalso; omega) (fun c50 => ?_)
    refine x_A k143_9 (fun _ => rfl) ?_
    refine x_A k143_10 (fun _ => rfl) ?_
    refine x_A k143_11 (fun _ => rfl) ?_
    refine x_callV k143_12 (y := 141) (n := 2) (w0 := 0) (w1 := 2) (as := [vi b, vi d]) (rest := []) (by decide +kernel) (q := 256) (nq := 62) (kq := 15) ⟨by decide, rfl⟩ rfl rfl rfl rfl (xe_mono (C_X11_isTold_256 s0 hG0 b ⟨by omega, by omega⟩ d ⟨by omega, by omega⟩) ?_)
    rintro s52 v ⟨h_s52, z51, rfl, hz_z51⟩
    rw [h_s52]
    rcases hz_z51 with ⟨c_z51, e_z51, m_z51⟩ | ⟨e_z51, m_z51⟩
    · rw [e_z51]
      show xe none 143 15 [(0, .ref 256), (1, vi a), (2, vi b), (3, vi d)] [vi 1] s0 0 0 _
      refine x_if_eq k143_15 (t := 22) rfl ⟨by omega, by omega⟩ (fun c53 => by exfalso; omega) (fun c53 => ?_)
      refine x_A k143_18 (fun _ => rfl) ?_
      refine x_goto k143_19 (t := 23) rfl ?_
      refine x_istore k143_23 (ls' := [(4, vi a), (0, .ref 256), (1, vi a), (2, vi b), (3, vi d)]) (by decide) rfl ?_
      refine x_ls (l := [(0, .ref 256), (1, vi a), (2, vi b), (3, vi d), (4, vi a)]) (show ([0, 1, 2, 3, 4] : List Nat).Nodup from by decide) ⟨rfl, rfl, rfl, rfl, rfl, trivial⟩ ?_
      exact L_E_X11_isBelow_256_25 s0 hJ0 a b_a b b_b d b_d rk hrk  ((((rkm (rk d) a : Nat) : Int) + 1 : Int)).toNat s0 a b d a hG0 f0 ⟨by omega, by omega⟩ ⟨by omega, by omega⟩ ⟨by omega, by omega⟩ ⟨by omega, by omega⟩ (by omega) (by omega) (fun _ => by omega) (fun _ => Iff.rfl)  (by omega)
    · rw [e_z51]
      show xe none 143 15 [(0, .ref 256), (1, vi a), (2, vi b), (3, vi d)] [vi 0] s0 0 0 _
      refine x_if_eq k143_15 (t := 22) rfl ⟨by omega, by omega⟩ (fun c54 => ?_) (fun c54 => by exfalso; omega)
      refine x_A k143_22 (fun _ => rfl) ?_
      refine x_istore k143_23 (ls' := [(4, vi (-1)), (0, .ref 256), (1, vi a), (2, vi b), (3, vi d)]) (by decide) rfl ?_
      refine x_ls (l := [(0, .ref 256), (1, vi a), (2, vi b), (3, vi d), (4, vi (-1))]) (show ([0, 1, 2, 3, 4] : List Nat).Nodup from by decide) ⟨rfl, rfl, rfl, rfl, rfl, trivial⟩ ?_
      exact L_E_X11_isBelow_256_25 s0 hJ0 a b_a b b_b d b_d rk hrk  ((((rkm (rk d) (-1) : Nat) : Int) + 1 : Int)).toNat s0 a b d (-1) hG0 f0 ⟨by omega, by omega⟩ ⟨by omega, by omega⟩ ⟨by omega, by omega⟩ ⟨by omega, by omega⟩ (by omega) (by omega) (fun _ => by omega) (fun h1 => by exfalso; omega)  (by omega)
  · rw [e_z48]
    show xe none 143 6 [(0, .ref 256), (1, vi a), (2, vi b), (3, vi d)] [vi 0] s0 0 0 _
    refine x_if_eq k143_6 (t := 22) rfl ⟨by omega, by omega⟩ (fun c55 => ?_) (fun c55 => by exfalso; omega)
    refine x_A k143_22 (fun _ => rfl) ?_
    refine x_istore k143_23 (ls' := [(4, vi (-1)), (0, .ref 256), (1, vi a), (2, vi b), (3, vi d)]) (by decide) rfl ?_
    refine x_ls (l := [(0, .ref 256), (1, vi a), (2, vi b), (3, vi d), (4, vi (-1))]) (show ([0, 1, 2, 3, 4] : List Nat).Nodup from by decide) ⟨rfl, rfl, rfl, rfl, rfl, trivial⟩ ?_
    exact L_E_X11_isBelow_256_25 s0 hJ0 a b_a b b_b d b_d rk hrk  ((((rkm (rk d) (-1) : Nat) : Int) + 1 : Int)).toNat s0 a b d (-1) hG0 f0 ⟨by omega, by omega⟩ ⟨by omega, by omega⟩ ⟨by omega, by omega⟩ ⟨by omega, by omega⟩ (by omega) (by omega) (fun _ => by omega) (fun h1 => by exfalso; omega)  (by omega)
theorem F_X7_add_1 (s0 : xS) (hG0 : GI s0) (a : Int) (b_a : (-1) ≤ a ∧ a ≤ 39) (b : Int) (b_b : 0 ≤ b ∧ b ≤ 9) : xe none 60 0 (lv_args 0 [.ref 1, vi a, vi b]) [] s0 0 0 (fun s' v => GI s' ∧ FL [69, 128, 384] s0 s' ∧ ∃ z, v = some (vi z) ∧ ((-1004) ≤ z ∧ z ≤ 39) ∧ ((40 ≤ s0 1 4 ∧ z = -1004 ∧ s' 1 4 = s0 1 4 ∧ s' 2 = s0 2 ∧ ∀ r j : Nat, 6 ≤ r → r ≤ 45 → s' r j = s0 r j) ∨ (s0 1 4 < 40 ∧ z = s0 1 4 ∧ s' 1 4 = s0 1 4 + 1 ∧ (∀ j, s' 2 j = if j = (s0 1 4).toNat then b else s0 2 j) ∧ ∀ r j : Nat, 6 ≤ r → r ≤ 45 → s' r j = if r = 5 + 1 + (s0 1 4).toNat ∧ b ≤ (j : Int) ∧ (j : Int) < 10 then a else s0 r j))) := by
  have f0 : FL [69, 128, 384] s0 s0 := FL.rf
  show xe none 60 0 [(0, .ref 1), (1, vi a), (2, vi b)] [] s0 0 0 _
  refine x_A k60_0 (fun _ => rfl) ?_
  refine x_getI k60_1 (f := 4) rfl (q := 1) (n := 5) (kd := 4) ⟨by decide, rfl⟩ (by decide) rfl ?_
  refine x_top (fun z1 e_z1 => ?_)
  have g_z1 : (1 : Int) ≤ s0 1 4 ∧ s0 1 4 ≤ 40 := hG0 1 4
  refine x_istore_n k60_4 (ls' := [(3, vi z1), (0, .ref 1), (1, vi a), (2, vi b)]) (by decide) rfl ?_
  refine x_A k60_5 (fun _ => rfl) ?_
  refine x_bipush k60_6 (by decide +kernel) ?_
  refine x_ic_lt k60_8 (t := 15) rfl ⟨by omega, by omega⟩ ⟨by omega, by omega⟩ (fun c2 => ?_) (fun c2 => ?_)
  · skip
    refine x_A k60_15 (fun _ => rfl) ?_
    refine x_getR k60_16 (f := 0) rfl (q := 1) (n := 5) (kd := 4) ⟨by decide, rfl⟩ (q2 := 2) (by decide) rfl ?_
    refine x_A k60_19 (fun _ => rfl) ?_
    refine x_A k60_20 (fun _ => rfl) ?_
    refine x_iast k60_21 (q := 2) (n := 40) ⟨by decide, rfl⟩ (by decide) ⟨by omega, by omega⟩ ?_
    refine x_nh (fun s3 e_s3 => ?_)
    have hG_s3 : GI s3 := by rw [e_s3]; exact hG0.up (show 0 ≤ b ∧ b ≤ 9 from ⟨by omega, by omega⟩)
    have f_s3 : FL [69, 128, 384] s0 s3 := by rw [e_s3]; exact f0.up (show 128 ∈ [69, 128, 384] from by decide)
    have q4 : s3 1 4 = z1 := by rw [e_s3, x_up_q (by decide)]; exact e_z1.symm
    have q5 : s3 2 z1.toNat = b := by rw [e_s3]; exact x_up_same
    refine x_A k60_22 (fun _ => rfl) ?_
    refine x_A k60_23 (fun _ => rfl) ?_
    refine x_getI k60_24 (f := 4) rfl (q := 1) (n := 5) (kd := 4) ⟨by decide, rfl⟩ (by decide) rfl ?_
    refine x_rw (q4) ?_
    refine x_A k60_27 (fun _ => rfl) ?_
    refine x_iadd k60_28 ?_
    refine x_top (fun z6 e_z6 => ?_)
    refine x_putI k60_29 (f := 4) rfl (q := 1) (n := 5) (kd := 4) ⟨by decide, rfl⟩ rfl rfl rfl ?_
    refine x_nh (fun s7 e_s7 => ?_)
    have hG_s7 : GI s7 := by rw [e_s7]; exact hG_s3.up (show 1 ≤ z6 ∧ z6 ≤ 40 from ⟨by omega, by omega⟩)
    have f_s7 : FL [69, 128, 384] s0 s7 := by rw [e_s7]; exact f_s3.up (show 69 ∈ [69, 128, 384] from by decide)
    have q8 : s7 1 4 = z6 := by rw [e_s7]; exact x_up_same
    have q9 : s7 2 z1.toNat = b := by rw [e_s7, x_up_q (by omega)]; exact q5
    refine x_A k60_32 (fun _ => rfl) ?_
    refine x_A k60_33 (fun _ => rfl) ?_
    refine x_A k60_34 (fun _ => rfl) ?_
    refine x_A k60_35 (fun _ => rfl) ?_
    refine x_callV k60_36 (y := 61) (n := 3) (w0 := 0) (w1 := 3) (as := [vi z1, vi a, vi b]) (rest := []) (by decide +kernel) (q := 1) (nq := 5) (kq := 4) ⟨by decide, rfl⟩ rfl rfl rfl rfl (xe_mono (E_X7_setParent_1 s7 hG_s7 z1 ⟨by omega, by omega⟩ a ⟨by omega, by omega⟩ b ⟨by omega, by omega⟩ ⟨by omega, by omega⟩) ?_)
    rintro s11 v ⟨hG_s11, t_s11, rfl, xp_z10⟩
    have f_s11 : FL [69, 128, 384] s0 s11 := f_s7.tr t_s11 (by decide)
    have q12 : s11 1 4 = z6 := (t_s11 1 4 (show 69 ∉ [384] from by decide)).trans q8
    have q13 : s11 2 z1.toNat = b := (t_s11 2 z1.toNat (show 128 ∉ [384] from by decide)).trans q9
    show xe none 60 39 [(3, vi z1), (0, .ref 1), (1, vi a), (2, vi b)] [] s11 0 0 _
    refine x_A k60_39 (fun _ => rfl) ?_
    exact x_iret k60_40 rfl ⟨hG_s11, f_s11, z1, rfl, ⟨by omega, by omega⟩, xp_z10.elim (fun ⟨u1, u2⟩ => by exfalso; omega) (fun ⟨u1, u2⟩ => Or.inr ⟨by omega, by omega, by omega, fun j => by rw [t_s11 2 j (show 128 ∉ _ from by decide), e_s7, x_up_q (by decide), e_s3, x_up_at, show z1 = s0 1 4 by omega], fun r j h1 h2 => by rw [u2 r j h1 h2, e_s7, x_up_q (by omega), e_s3, x_up_q (by omega), show z1 = s0 1 4 by omega]⟩)⟩
  · skip
    refine x_sipush k60_11 (by decide +kernel) ?_
    exact x_iret k60_14 rfl ⟨hG0, f0, (-1004), rfl, ⟨by omega, by omega⟩, Or.inl ⟨by omega, rfl, rfl, rfl, fun _ _ _ _ => rfl⟩⟩
theorem F_X10_mark_0 (s0 : xS) (hG0 : GI s0) (a : Int) (b_a : (-2147483648) ≤ a ∧ a ≤ 2147483647) (p_1_4 : 1 ≤ s0 1 4 ∧ s0 1 4 ≤ 40) (p_0_10 : 0 ≤ s0 0 10 ∧ s0 0 10 ≤ 9) : xe none 92 0 (lv_args 0 [.ref 0, vi a]) [] s0 0 0 (fun s' v => GI s' ∧ FL [69, 128, 384, 3276, 3277] s0 s' ∧ ∃ z, v = some (vi z) ∧ ((-1004) ≤ z ∧ z ≤ 39) ∧ (MkC s0 s' a z ∧ MkP s0 s' a z)) := by
  have f0 : FL [69, 128, 384, 3276, 3277] s0 s0 := FL.rf
  show xe none 92 0 [(0, .ref 0), (1, vi a)] [] s0 0 0 _
  obtain ⟨z1, e_z1⟩ : ∃ z, z = s0 1 4 := ⟨_, rfl⟩
  have g_z1 : (1 : Int) ≤ s0 1 4 ∧ s0 1 4 ≤ 40 := hG0 1 4
  obtain ⟨z2, e_z2⟩ : ∃ z, z = s0 0 10 := ⟨_, rfl⟩
  have g_z2 : (0 : Int) ≤ s0 0 10 ∧ s0 0 10 ≤ 9 := hG0 0 10
  refine x_A k92_0 (fun _ => rfl) ?_
  refine x_getR k92_1 (f := 0) rfl (q := 0) (n := 12) (kd := 3) ⟨by decide, rfl⟩ (q2 := 1) (by decide) rfl ?_
  refine x_A k92_4 (fun _ => rfl) ?_
  refine x_callV k92_5 (y := 59) (n := 1) (w0 := 0) (w1 := 1) (as := [vi a]) (rest := []) (by decide +kernel) (q := 1) (nq := 5) (kq := 4) ⟨by decide, rfl⟩ rfl rfl rfl rfl (xe_mono (C_X7_has_1 s0 hG0 a ⟨by omega, by omega⟩) ?_)
  rintro s4 v ⟨h_s4, z3, rfl, hz_z3⟩
  rw [h_s4]
  rcases hz_z3 with ⟨c_z3, e_z3⟩ | ⟨c_z3, e_z3⟩
  · rw [e_z3]
    show xe none 92 8 [(0, .ref 0), (1, vi a)] [vi 1] s0 0 0 _
    refine x_if_ne k92_8 (t := 15) rfl ⟨by omega, by omega⟩ (fun c5 => ?_) (fun c5 => by exfalso; omega)
    refine x_A k92_15 (fun _ => rfl) ?_
    refine x_getR k92_16 (f := 0) rfl (q := 0) (n := 12) (kd := 3) ⟨by decide, rfl⟩ (q2 := 1) (by decide) rfl ?_
    refine x_A k92_19 (fun _ => rfl) ?_
    refine x_A k92_20 (fun _ => rfl) ?_
    refine x_getI k92_21 (f := 10) rfl (q := 0) (n := 12) (kd := 3) ⟨by decide, rfl⟩ (by decide) rfl ?_
    refine x_rw (e_z2.symm) ?_
    refine x_callV k92_24 (y := 64) (n := 2) (w0 := 0) (w1 := 2) (as := [vi a, vi z2]) (rest := []) (by decide +kernel) (q := 1) (nq := 5) (kq := 4) ⟨by decide, rfl⟩ rfl rfl rfl rfl (xe_mono (E_X7_isThere_1 s0 hG0 a ⟨by omega, by omega⟩ z2 ⟨by omega, by omega⟩) ?_)
    rintro s7 v ⟨h_s7, z6, rfl, hz_z6⟩
    rw [h_s7]
    rcases hz_z6 with ⟨c_z6, e_z6, m_z6⟩ | ⟨e_z6, m_z6⟩
    · rw [e_z6]
      show xe none 92 27 [(0, .ref 0), (1, vi a)] [vi 1] s0 0 0 _
      refine x_if_ne k92_27 (t := 34) rfl ⟨by omega, by omega⟩ (fun c8 => ?_) (fun c8 => by exfalso; omega)
      refine x_A k92_34 (fun _ => rfl) ?_
      refine x_getR k92_35 (f := 9) rfl (q := 0) (n := 12) (kd := 3) ⟨by decide, rfl⟩ (q2 := 243) (by decide) rfl ?_
      refine x_callV k92_38 (y := 73) (n := 0) (w0 := 0) (w1 := 0) (as := []) (rest := []) (by decide +kernel) (q := 243) (nq := 13) (kq := 13) ⟨by decide, rfl⟩ rfl rfl rfl rfl (xe_mono (C_X8_forget_243 s0 hG0) ?_)
      rintro s10 v ⟨hG_s10, t_s10, rfl⟩
      have f_s10 : FL [69, 128, 384, 3276, 3277] s0 s10 := f0.tr t_s10 (by decide)
      have q11 : s10 1 4 = z1 := (t_s10 1 4 (show 69 ∉ [3276, 3277] from by decide)).trans e_z1.symm
      have q12 : s10 0 10 = z2 := (t_s10 0 10 (show 11 ∉ [3276, 3277] from by decide)).trans e_z2.symm
      show xe none 92 41 [(0, .ref 0), (1, vi a)] [] s10 0 0 _
      refine x_A k92_41 (fun _ => rfl) ?_
      refine x_getR k92_42 (f := 0) rfl (q := 0) (n := 12) (kd := 3) ⟨by decide, rfl⟩ (q2 := 1) (by decide) rfl ?_
      refine x_A k92_45 (fun _ => rfl) ?_
      refine x_A k92_46 (fun _ => rfl) ?_
      refine x_getI k92_47 (f := 10) rfl (q := 0) (n := 12) (kd := 3) ⟨by decide, rfl⟩ (by decide) rfl ?_
      refine x_rw (q12) ?_
      refine x_callV k92_50 (y := 60) (n := 2) (w0 := 0) (w1 := 2) (as := [vi a, vi z2]) (rest := []) (by decide +kernel) (q := 1) (nq := 5) (kq := 4) ⟨by decide, rfl⟩ rfl rfl rfl rfl (xe_mono (F_X7_add_1 s10 hG_s10 a ⟨by omega, by omega⟩ z2 ⟨by omega, by omega⟩) ?_)
      rintro s14 v ⟨hG_s14, t_s14, z13, rfl, g_z13, xp_z13⟩
      have f_s14 : FL [69, 128, 384, 3276, 3277] s0 s14 := f_s10.tr t_s14 (by decide)
      have q15 : s14 0 10 = z2 := (t_s14 0 10 (show 11 ∉ [69, 128, 384] from by decide)).trans q12
      obtain ⟨z16, e_z16⟩ : ∃ z, z = s14 1 4 := ⟨_, rfl⟩
      have g_z16 : (1 : Int) ≤ s14 1 4 ∧ s14 1 4 ≤ 40 := hG_s14 1 4
      show xe none 92 53 [(0, .ref 0), (1, vi a)] [vi z13] s14 0 0 _
      have F2 : s10 2 = s0 2 := funext fun i => t_s10 2 i (show 128 ∉ _ from by decide)
      have FR := rows40 t_s10 (by decide)
      exact x_iret k92_53 rfl ⟨hG_s14, f_s14, z13, rfl, ⟨by omega, by omega⟩, ⟨(by unfold MkC; exact xp_z13.elim (fun ⟨u1, u2, u3, u4, u5⟩ => Or.inr (Or.inr (Or.inl ⟨by omega, by omega, by omega, by omega, by omega, u4.trans F2⟩))) (fun ⟨u1, u2, u3, u4, u5⟩ => Or.inr (Or.inr (Or.inr ⟨by omega, by omega, by omega, by omega, by omega, fun j => by rw [u4, show s10 1 4 = s0 1 4 by omega, show z2 = s0 0 10 by omega, F2]⟩)))), xp_z13.elim (fun ⟨u1, u2, u3, u4, u5⟩ => ⟨fun _ r j h1 h2 => (u5 r j h1 h2).trans (FR r j h1 h2), fun w => by exfalso; omega⟩) (fun ⟨u1, u2, u3, u4, u5⟩ => ⟨fun w => by exfalso; omega, fun _ r j h1 h2 => by rw [u5 r j h1 h2, FR r j h1 h2, ← u2, show z2 = s0 0 10 by omega]⟩)⟩⟩
    · rw [e_z6]
      show xe none 92 27 [(0, .ref 0), (1, vi a)] [vi 0] s0 0 0 _
      refine x_if_ne k92_27 (t := 34) rfl ⟨by omega, by omega⟩ (fun c17 => by exfalso; omega) (fun c17 => ?_)
      refine x_sipush k92_30 (by decide +kernel) ?_
      exact x_iret k92_33 rfl ⟨hG0, f0, (-1003), rfl, ⟨by omega, by omega⟩, ⟨(by unfold MkC; exact Or.inr (Or.inl ⟨by omega, by omega, rfl, rfl, rfl⟩)), ⟨fun _ _ _ _ _ => rfl, fun w => absurd w (by decide)⟩⟩⟩
  · rw [e_z3]
    show xe none 92 8 [(0, .ref 0), (1, vi a)] [vi 0] s0 0 0 _
    refine x_if_ne k92_8 (t := 15) rfl ⟨by omega, by omega⟩ (fun c18 => by exfalso; omega) (fun c18 => ?_)
    refine x_sipush k92_11 (by decide +kernel) ?_
    exact x_iret k92_14 rfl ⟨hG0, f0, (-1001), rfl, ⟨by omega, by omega⟩, ⟨(by unfold MkC; exact Or.inl ⟨by omega, rfl, rfl, rfl⟩), ⟨fun _ _ _ _ _ => rfl, fun w => absurd w (by decide)⟩⟩⟩
theorem L_E_X11_belowMany_256_5 (s0 : xS) (hJ0 : J s0) (a : Int) (b_a : 0 ≤ a ∧ a ≤ 39) (b : Int) (b_b : 0 ≤ b ∧ b ≤ 9)  : ∀ (n : Nat) (s : xS) (x1 : Int) (x2 : Int) (x3 : Int) (x4 : Int) (x1000 : Int) (hG : GI s) (f : FL [] s0 s) (b_x1 : 0 ≤ x1 ∧ x1 ≤ 39) (b_x2 : 0 ≤ x2 ∧ x2 ≤ 9) (b_x3 : 0 ≤ x3 ∧ x3 ≤ 60) (b_x4 : 0 ≤ x4 ∧ x4 ≤ 40) (b_x1000 : 1 ≤ x1000 ∧ x1000 ≤ 40) (r_3_4 : x3 ≤ x4 + 0) (r_4_1000 : x4 ≤ x1000 + 0) (w_0 : x1 = a) (w_1 : x2 = b) (w_2 : x1000 = s0 256 1) (w_3 : x4 ≤ x1000) (w_4 : x3 = ctp (fun k => (((k : Int) < s0 256 1 ∧ s0 257 k ≤ b) ∧ a < s0 256 1 ∧ s0 257 a.toNat ≤ b) ∧ ∃ j, xup s0 b j (k : Int) = a) x4.toNat) (e_x1000 : x1000 = s 256 1)  (hm : (40 - x4) < (n : Int)), xe none 144 5 [(0, .ref 256), (1, vi x1), (2, vi x2), (3, vi x3), (4, vi x4)] [] s 0 0 (fun s' v => GI s' ∧ FL [] s0 s' ∧ ∃ z, v = some (vi z) ∧ (0 ≤ z ∧ z ≤ 40) ∧ (z = ctp (fun k => (((k : Int) < s0 256 1 ∧ s0 257 k ≤ b) ∧ a < s0 256 1 ∧ s0 257 a.toNat ≤ b) ∧ ∃ j, xup s0 b j (k : Int) = a) (s0 256 1).toNat)) := by
  intro n
  induction n with
  | zero => intro s x1 x2 x3 x4 x1000 hG f b_x1 b_x2 b_x3 b_x4 b_x1000 r_3_4 r_4_1000 w_0 w_1 w_2 w_3 w_4 e_x1000  hm; exfalso; omega
  | succ n ih =>
    intro s x1 x2 x3 x4 x1000 hG f b_x1 b_x2 b_x3 b_x4 b_x1000 r_3_4 r_4_1000 w_0 w_1 w_2 w_3 w_4 e_x1000  hm
    refine x_A k144_5 (fun _ => rfl) ?_
    refine x_A k144_7 (fun _ => rfl) ?_
    refine x_getI k144_8 (f := 1) rfl (q := 256) (n := 62) (kd := 15) ⟨by decide, rfl⟩ (by decide) rfl ?_
    refine x_rw (e_x1000.symm) ?_
    refine x_ic_ge k144_11 (t := 39) rfl ⟨by omega, by omega⟩ ⟨by omega, by omega⟩ (fun c105 => ?_) (fun c105 => ?_)
    · skip
      refine x_A k144_39 (fun _ => rfl) ?_
      exact x_iret k144_40 rfl ⟨hG, f, x3, rfl, ⟨by omega, by omega⟩, (by rw [show (s0 256 1).toNat = x4.toNat by omega]; exact w_4)⟩
    · skip
      refine x_A k144_14 (fun _ => rfl) ?_
      refine x_A k144_15 (fun _ => rfl) ?_
      refine x_A k144_16 (fun _ => rfl) ?_
      refine x_A k144_18 (fun _ => rfl) ?_
      refine x_A k144_19 (fun _ => rfl) ?_
      refine x_callV k144_20 (y := 143) (n := 3) (w0 := 1) (w1 := 3) (as := [vi x4, vi x1, vi x2]) (rest := [vi x3]) (by decide +kernel) (q := 256) (nq := 62) (kq := 15) ⟨by decide, rfl⟩ rfl rfl rfl rfl (xe_mono (E_X11_isBelow_256 s hG (hJ0.fl f (by decide)) x4 ⟨by omega, by omega⟩ x1 ⟨by omega, by omega⟩ x2 ⟨by omega, by omega⟩) ?_)
      rintro s107 v ⟨-, t_s107, z106, rfl, g_z106, xp_z106⟩
      rw [t_s107.nil]
      try rw [t_s107.nil] at xp_z106
      show xe none 144 23 [(0, .ref 256), (1, vi x1), (2, vi x2), (3, vi x3), (4, vi x4)] [vi z106, vi x3] s 0 0 _
      have cs := ctp_s (fun k => (((k : Int) < s0 256 1 ∧ s0 257 k ≤ b) ∧ a < s0 256 1 ∧ s0 257 a.toNat ≤ b) ∧ ∃ j, xup s0 b j (k : Int) = a) (k := x4) (by omega)
      have ck : (z106 = 1 → ctp (fun k => (((k : Int) < s0 256 1 ∧ s0 257 k ≤ b) ∧ a < s0 256 1 ∧ s0 257 a.toNat ≤ b) ∧ ∃ j, xup s0 b j (k : Int) = a) (x4 + 1).toNat = ctp (fun k => (((k : Int) < s0 256 1 ∧ s0 257 k ≤ b) ∧ a < s0 256 1 ∧ s0 257 a.toNat ≤ b) ∧ ∃ j, xup s0 b j (k : Int) = a) x4.toNat + 1) ∧ (z106 = 0 → ctp (fun k => (((k : Int) < s0 256 1 ∧ s0 257 k ≤ b) ∧ a < s0 256 1 ∧ s0 257 a.toNat ≤ b) ∧ ∃ j, xup s0 b j (k : Int) = a) (x4 + 1).toNat = ctp (fun k => (((k : Int) < s0 256 1 ∧ s0 257 k ≤ b) ∧ a < s0 256 1 ∧ s0 257 a.toNat ≤ b) ∧ ∃ j, xup s0 b j (k : Int) = a) x4.toNat) := by
        have e4 : ((x4.toNat : Nat) : Int) = x4 := by omega
        have e1 : x1 = a := by omega
        have e2 : x2 = b := by omega
        have xq := xp_z106
        rw [f.nil, e1, e2] at xq
        rw [e4] at cs
        exact ⟨fun hz => cs.1 (xq.elim (fun q => ⟨⟨⟨q.2.1.1.2.1, q.2.1.1.2.2⟩, q.2.1.2⟩, q.2.2⟩) (fun q => by exfalso; omega)), fun hz => cs.2 (xq.elim (fun q => by exfalso; omega) (fun q w => q.2 ⟨⟨⟨by omega, w.1.1⟩, w.1.2⟩, w.2⟩))⟩
      refine x_if_eq k144_23 (t := 30) rfl ⟨by omega, by omega⟩ (fun c108 => ?_) (fun c108 => ?_)
      · skip
        refine x_A k144_30 (fun _ => rfl) ?_
        refine x_iadd k144_31 ?_
        refine x_top (fun z109 e_z109 => ?_)
        refine x_istore_n k144_32 (ls' := [(3, vi z109), (0, .ref 256), (1, vi x1), (2, vi x2), (4, vi x4)]) (by decide) rfl ?_
        refine x_iinc k144_33 (ls' := [(4, vi (x4 + 1)), (3, vi z109), (0, .ref 256), (1, vi x1), (2, vi x2)]) rfl (by decide) rfl ?_
        refine x_goto k144_36 (t := 5) rfl ?_
        refine x_ls (l := [(0, .ref 256), (1, vi x1), (2, vi x2), (3, vi z109), (4, vi (x4 + 1))]) (show ([0, 1, 2, 3, 4] : List Nat).Nodup from by decide) ⟨rfl, rfl, rfl, rfl, rfl, trivial⟩ ?_
        exact ih s x1 x2 z109 (x4 + 1) x1000 hG f ⟨by omega, by omega⟩ ⟨by omega, by omega⟩ ⟨by omega, by omega⟩ ⟨by omega, by omega⟩ ⟨by omega, by omega⟩ (by omega) (by omega) (by omega) (by omega) (by omega) (by omega) (by omega) (e_x1000.symm).symm  (by omega)
      · skip
        refine x_A k144_26 (fun _ => rfl) ?_
        refine x_goto k144_27 (t := 31) rfl ?_
        refine x_iadd k144_31 ?_
        refine x_top (fun z110 e_z110 => ?_)
        refine x_istore_n k144_32 (ls' := [(3, vi z110), (0, .ref 256), (1, vi x1), (2, vi x2), (4, vi x4)]) (by decide) rfl ?_
        refine x_iinc k144_33 (ls' := [(4, vi (x4 + 1)), (3, vi z110), (0, .ref 256), (1, vi x1), (2, vi x2)]) rfl (by decide) rfl ?_
        refine x_goto k144_36 (t := 5) rfl ?_
        refine x_ls (l := [(0, .ref 256), (1, vi x1), (2, vi x2), (3, vi z110), (4, vi (x4 + 1))]) (show ([0, 1, 2, 3, 4] : List Nat).Nodup from by decide) ⟨rfl, rfl, rfl, rfl, rfl, trivial⟩ ?_
        exact ih s x1 x2 z110 (x4 + 1) x1000 hG f ⟨by omega, by omega⟩ ⟨by omega, by omega⟩ ⟨by omega, by omega⟩ ⟨by omega, by omega⟩ ⟨by omega, by omega⟩ (by omega) (by omega) (by omega) (by omega) (by omega) (by omega) (by omega) (e_x1000.symm).symm  (by omega)
theorem E_X11_belowMany_256 (s0 : xS) (hG0 : GI s0) (hJ0 : J s0) (a : Int) (b_a : 0 ≤ a ∧ a ≤ 39) (b : Int) (b_b : 0 ≤ b ∧ b ≤ 9) : xe none 144 0 (lv_args 0 [.ref 256, vi a, vi b]) [] s0 0 0 (fun s' v => GI s' ∧ FL [] s0 s' ∧ ∃ z, v = some (vi z) ∧ (0 ≤ z ∧ z ≤ 40) ∧ (z = ctp (fun k => (((k : Int) < s0 256 1 ∧ s0 257 k ≤ b) ∧ a < s0 256 1 ∧ s0 257 a.toNat ≤ b) ∧ ∃ j, xup s0 b j (k : Int) = a) (s0 256 1).toNat)) := by
  have f0 : FL [] s0 s0 := FL.rf
  show xe none 144 0 [(0, .ref 256), (1, vi a), (2, vi b)] [] s0 0 0 _
  refine x_A k144_0 (fun _ => rfl) ?_
  refine x_istore_n k144_1 (ls' := [(3, vi 0), (0, .ref 256), (1, vi a), (2, vi b)]) (by decide) rfl ?_
  refine x_A k144_2 (fun _ => rfl) ?_
  refine x_istore k144_3 (ls' := [(4, vi 0), (3, vi 0), (0, .ref 256), (1, vi a), (2, vi b)]) (by decide) rfl ?_
  obtain ⟨z111, e_z111⟩ : ∃ z, z = s0 256 1 := ⟨_, rfl⟩
  have g_z111 : (1 : Int) ≤ s0 256 1 ∧ s0 256 1 ≤ 40 := hG0 256 1
  refine x_ls (l := [(0, .ref 256), (1, vi a), (2, vi b), (3, vi 0), (4, vi 0)]) (show ([0, 1, 2, 3, 4] : List Nat).Nodup from by decide) ⟨rfl, rfl, rfl, rfl, rfl, trivial⟩ ?_
  exact L_E_X11_belowMany_256_5 s0 hJ0 a b_a b b_b  (((40 - 0) + 1 : Int)).toNat s0 a b 0 0 z111 hG0 f0 ⟨by omega, by omega⟩ ⟨by omega, by omega⟩ ⟨by omega, by omega⟩ ⟨by omega, by omega⟩ ⟨by omega, by omega⟩ (by omega) (by omega) (by omega) (by omega) (by omega) (by omega) (show _ = _ from rfl) (e_z111.symm).symm  (by omega)
theorem F_X11_tell_256 (s0 : xS) (hG0 : GI s0) (a : Int) (b_a : (-1) ≤ a ∧ a ≤ 39) (p_256_1 : 1 ≤ s0 256 1 ∧ s0 256 1 ≤ 39) (pa : 0 ≤ a ∧ a < s0 256 1) (i0_J : J s0) : xe none 139 0 (lv_args 0 [.ref 256, vi a]) [] s0 0 0 (fun s' v => GI s' ∧ FL [4098, 4160, 4224, 4288, 4352] s0 s' ∧ v = none ∧ (s' 256 1 = s0 256 1 + 1 ∧ (∀ j, s' 257 j = if j = (s0 256 1).toNat then s0 256 0 else s0 257 j) ∧ (∀ j, s' 258 j = if j = (s0 256 1).toNat then -1 else s0 258 j) ∧ ∀ j : Nat, s' 260 j = if 10 * s0 256 1 + s0 256 0 ≤ (j : Int) ∧ (j : Int) < 10 * s0 256 1 + 10 then a else s0 260 j) ∧ J s') := by
  have f0 : FL [4098, 4160, 4224, 4288, 4352] s0 s0 := FL.rf
  show xe none 139 0 [(0, .ref 256), (1, vi a)] [] s0 0 0 _
  obtain ⟨z1, e_z1⟩ : ∃ z, z = s0 256 1 := ⟨_, rfl⟩
  have g_z1 : (1 : Int) ≤ s0 256 1 ∧ s0 256 1 ≤ 40 := hG0 256 1
  refine x_A k139_0 (fun _ => rfl) ?_
  refine x_getR k139_1 (f := 2) rfl (q := 256) (n := 62) (kd := 15) ⟨by decide, rfl⟩ (q2 := 257) (by decide) rfl ?_
  refine x_A k139_4 (fun _ => rfl) ?_
  refine x_getI k139_5 (f := 1) rfl (q := 256) (n := 62) (kd := 15) ⟨by decide, rfl⟩ (by decide) rfl ?_
  refine x_rw (e_z1.symm) ?_
  refine x_A k139_8 (fun _ => rfl) ?_
  refine x_getI k139_9 (f := 0) rfl (q := 256) (n := 62) (kd := 15) ⟨by decide, rfl⟩ (by decide) rfl ?_
  refine x_top (fun z2 e_z2 => ?_)
  have g_z2 : (0 : Int) ≤ s0 256 0 ∧ s0 256 0 ≤ 9 := hG0 256 0
  refine x_iast k139_12 (q := 257) (n := 40) ⟨by decide, rfl⟩ (by decide) ⟨by omega, by omega⟩ ?_
  refine x_nh (fun s3 e_s3 => ?_)
  have hG_s3 : GI s3 := by rw [e_s3]; exact hG0.up (show 0 ≤ z2 ∧ z2 ≤ 9 from ⟨by omega, by omega⟩)
  have f_s3 : FL [4098, 4160, 4224, 4288, 4352] s0 s3 := by rw [e_s3]; exact f0.up (show 4160 ∈ [4098, 4160, 4224, 4288, 4352] from by decide)
  have q4 : s3 256 1 = z1 := by rw [e_s3, x_up_q (by decide)]; exact e_z1.symm
  have q5 : s3 256 0 = z2 := by rw [e_s3, x_up_q (by decide)]; exact e_z2.symm
  have q6 : s3 257 z1.toNat = z2 := by rw [e_s3]; exact x_up_same
  refine x_A k139_13 (fun _ => rfl) ?_
  refine x_getR k139_14 (f := 3) rfl (q := 256) (n := 62) (kd := 15) ⟨by decide, rfl⟩ (q2 := 258) (by decide) rfl ?_
  refine x_A k139_17 (fun _ => rfl) ?_
  refine x_getI k139_18 (f := 1) rfl (q := 256) (n := 62) (kd := 15) ⟨by decide, rfl⟩ (by decide) rfl ?_
  refine x_rw (q4) ?_
  refine x_A k139_21 (fun _ => rfl) ?_
  refine x_iast k139_22 (q := 258) (n := 40) ⟨by decide, rfl⟩ (by decide) ⟨by omega, by omega⟩ ?_
  refine x_nh (fun s7 e_s7 => ?_)
  have hG_s7 : GI s7 := by rw [e_s7]; exact hG_s3.up (show (-1) ≤ (-1) ∧ (-1) ≤ 9 from ⟨by omega, by omega⟩)
  have f_s7 : FL [4098, 4160, 4224, 4288, 4352] s0 s7 := by rw [e_s7]; exact f_s3.up (show 4224 ∈ [4098, 4160, 4224, 4288, 4352] from by decide)
  have q8 : s7 256 1 = z1 := by rw [e_s7, x_up_q (by decide)]; exact q4
  have q9 : s7 256 0 = z2 := by rw [e_s7, x_up_q (by decide)]; exact q5
  have q10 : s7 257 z1.toNat = z2 := by rw [e_s7, x_up_q (by omega)]; exact q6
  have q11 : s7 258 z1.toNat = (-1) := by rw [e_s7]; exact x_up_same
  refine x_A k139_23 (fun _ => rfl) ?_
  refine x_getR k139_24 (f := 4) rfl (q := 256) (n := 62) (kd := 15) ⟨by decide, rfl⟩ (q2 := 259) (by decide) rfl ?_
  refine x_A k139_27 (fun _ => rfl) ?_
  refine x_getI k139_28 (f := 1) rfl (q := 256) (n := 62) (kd := 15) ⟨by decide, rfl⟩ (by decide) rfl ?_
  refine x_rw (q8) ?_
  refine x_A k139_31 (fun _ => rfl) ?_
  refine x_iast k139_32 (q := 259) (n := 40) ⟨by decide, rfl⟩ (by decide) ⟨by omega, by omega⟩ ?_
  refine x_nh (fun s12 e_s12 => ?_)
  have hG_s12 : GI s12 := by rw [e_s12]; exact hG_s7.up (show (-1) ≤ (-1) ∧ (-1) ≤ 39 from ⟨by omega, by omega⟩)
  have f_s12 : FL [4098, 4160, 4224, 4288, 4352] s0 s12 := by rw [e_s12]; exact f_s7.up (show 4288 ∈ [4098, 4160, 4224, 4288, 4352] from by decide)
  have q13 : s12 256 1 = z1 := by rw [e_s12, x_up_q (by decide)]; exact q8
  have q14 : s12 256 0 = z2 := by rw [e_s12, x_up_q (by decide)]; exact q9
  have q15 : s12 257 z1.toNat = z2 := by rw [e_s12, x_up_q (by omega)]; exact q10
  have q16 : s12 258 z1.toNat = (-1) := by rw [e_s12, x_up_q (by omega)]; exact q11
  have q17 : s12 259 z1.toNat = (-1) := by rw [e_s12]; exact x_up_same
  refine x_A k139_33 (fun _ => rfl) ?_
  refine x_A k139_34 (fun _ => rfl) ?_
  refine x_getI k139_35 (f := 1) rfl (q := 256) (n := 62) (kd := 15) ⟨by decide, rfl⟩ (by decide) rfl ?_
  refine x_rw (q13) ?_
  refine x_A k139_38 (fun _ => rfl) ?_
  refine x_iadd k139_39 ?_
  refine x_top (fun z18 e_z18 => ?_)
  refine x_putI k139_40 (f := 1) rfl (q := 256) (n := 62) (kd := 15) ⟨by decide, rfl⟩ rfl rfl rfl ?_
  refine x_nh (fun s19 e_s19 => ?_)
  have hG_s19 : GI s19 := by rw [e_s19]; exact hG_s12.up (show 1 ≤ z18 ∧ z18 ≤ 40 from ⟨by omega, by omega⟩)
  have f_s19 : FL [4098, 4160, 4224, 4288, 4352] s0 s19 := by rw [e_s19]; exact f_s12.up (show 4098 ∈ [4098, 4160, 4224, 4288, 4352] from by decide)
  have q20 : s19 256 0 = z2 := by rw [e_s19, x_up_i (by decide)]; exact q14
  have q21 : s19 256 1 = z18 := by rw [e_s19]; exact x_up_same
  have q22 : s19 257 z1.toNat = z2 := by rw [e_s19, x_up_q (by omega)]; exact q15
  have q23 : s19 258 z1.toNat = (-1) := by rw [e_s19, x_up_q (by omega)]; exact q16
  have q24 : s19 259 z1.toNat = (-1) := by rw [e_s19, x_up_q (by omega)]; exact q17
  refine x_A k139_43 (fun _ => rfl) ?_
  refine x_A k139_44 (fun _ => rfl) ?_
  refine x_getI k139_45 (f := 1) rfl (q := 256) (n := 62) (kd := 15) ⟨by decide, rfl⟩ (by decide) rfl ?_
  refine x_rw (q21) ?_
  refine x_A k139_48 (fun _ => rfl) ?_
  refine x_isub k139_49 ?_
  refine x_top (fun z25 e_z25 => ?_)
  refine x_A k139_50 (fun _ => rfl) ?_
  have J_t : J s19 := by rw [e_s19, e_s12, e_s7, e_s3]; exact J.tell i0_J hG0 e_z1 e_z2 (by omega) (by omega)
  have x_t : ∀ k, xup s19 (s19 256 0) k a ≠ z1 := by rw [e_s19, e_s12, e_s7, e_s3]; exact J.tellx i0_J hG0 e_z1 (by omega)
  refine x_callV k139_51 (y := 140) (n := 2) (w0 := 0) (w1 := 2) (as := [vi z25, vi a]) (rest := []) (by decide +kernel) (q := 256) (nq := 62) (kq := 15) ⟨by decide, rfl⟩ rfl rfl rfl rfl (xe_mono (D_X11_hang_256 s19 hG_s19 z25 ⟨by omega, by omega⟩ a ⟨by omega, by omega⟩) ?_)
  rintro s27 v ⟨hG_s27, t_s27, rfl, xp_z26⟩
  have f_s27 : FL [4098, 4160, 4224, 4288, 4352] s0 s27 := f_s19.tr t_s27 (by decide)
  have q28 : s27 256 0 = z2 := (t_s27 256 0 (show 4097 ∉ [4352] from by decide)).trans q20
  have q29 : s27 256 1 = z18 := (t_s27 256 1 (show 4098 ∉ [4352] from by decide)).trans q21
  have q30 : s27 257 z1.toNat = z2 := (t_s27 257 z1.toNat (show 4160 ∉ [4352] from by decide)).trans q22
  have q31 : s27 258 z1.toNat = (-1) := (t_s27 258 z1.toNat (show 4224 ∉ [4352] from by decide)).trans q23
  have q32 : s27 259 z1.toNat = (-1) := (t_s27 259 z1.toNat (show 4288 ∉ [4352] from by decide)).trans q24
  show xe none 139 54 [(0, .ref 256), (1, vi a)] [] s27 0 0 _
  have J_h : J s27 := J.hang J_t hG_s19 (m := z25) (p := a) ⟨by omega, by omega⟩ ⟨by omega, by rw [q21]; omega⟩ (by rw [show z25 = z1 by omega]; exact x_t) t_s27 xp_z26
  exact x_vret k139_54 rfl ⟨hG_s27, f_s27, rfl, ⟨by omega, fun j => by rw [t_s27 257 j (show 4160 ∉ _ from by decide), e_s19, x_up_q (by decide), e_s12, x_up_q (by decide), e_s7, x_up_q (by decide), e_s3, x_up_at, show z1 = s0 256 1 by omega, show z2 = s0 256 0 by omega], fun j => by rw [t_s27 258 j (show 4224 ∉ _ from by decide), e_s19, x_up_q (by decide), e_s12, x_up_q (by decide), e_s7, x_up_at, e_s3, x_up_q (by decide), show z1 = s0 256 1 by omega], fun j => by rw [xp_z26 j, show s19 256 0 = s0 256 0 by omega, show s19 260 j = s0 260 j by rw [e_s19, x_up_q (by decide), e_s12, x_up_q (by decide), e_s7, x_up_q (by decide), e_s3, x_up_q (by decide)], show z25 = s0 256 1 by omega]⟩, J_h⟩
theorem F_X11_mark_256 (s0 : xS) (hG0 : GI s0) (a : Int) (b_a : (-2147483648) ≤ a ∧ a ≤ 2147483647) (p_256_1 : 1 ≤ s0 256 1 ∧ s0 256 1 ≤ 40) (p_256_0 : 0 ≤ s0 256 0 ∧ s0 256 0 ≤ 9) (i0_J : J s0) : xe none 146 0 (lv_args 0 [.ref 256, vi a]) [] s0 0 0 (fun s' v => GI s' ∧ FL [4098, 4160, 4224, 4288, 4352] s0 s' ∧ ∃ z, v = some (vi z) ∧ ((-1004) ≤ z ∧ z ≤ 39) ∧ (MkR s0 s' a z ∧ MkQ s0 s' a z) ∧ J s') := by
  have f0 : FL [4098, 4160, 4224, 4288, 4352] s0 s0 := FL.rf
  show xe none 146 0 [(0, .ref 256), (1, vi a)] [] s0 0 0 _
  obtain ⟨z1, e_z1⟩ : ∃ z, z = s0 256 1 := ⟨_, rfl⟩
  have g_z1 : (1 : Int) ≤ s0 256 1 ∧ s0 256 1 ≤ 40 := hG0 256 1
  obtain ⟨z2, e_z2⟩ : ∃ z, z = s0 256 0 := ⟨_, rfl⟩
  have g_z2 : (0 : Int) ≤ s0 256 0 ∧ s0 256 0 ≤ 9 := hG0 256 0
  refine x_A k146_0 (fun _ => rfl) ?_
  refine x_A k146_1 (fun _ => rfl) ?_
  refine x_callV k146_2 (y := 137) (n := 1) (w0 := 0) (w1 := 1) (as := [vi a]) (rest := []) (by decide +kernel) (q := 256) (nq := 62) (kq := 15) ⟨by decide, rfl⟩ rfl rfl rfl rfl (xe_mono (C_X11_isMark_256 s0 hG0 a ⟨by omega, by omega⟩) ?_)
  rintro s4 v ⟨h_s4, z3, rfl, hz_z3⟩
  rw [h_s4]
  rcases hz_z3 with ⟨c_z3, e_z3⟩ | ⟨c_z3, e_z3⟩
  · rw [e_z3]
    show xe none 146 5 [(0, .ref 256), (1, vi a)] [vi 1] s0 0 0 _
    refine x_if_ne k146_5 (t := 12) rfl ⟨by omega, by omega⟩ (fun c5 => ?_) (fun c5 => by exfalso; omega)
    refine x_A k146_12 (fun _ => rfl) ?_
    refine x_A k146_13 (fun _ => rfl) ?_
    refine x_A k146_14 (fun _ => rfl) ?_
    refine x_getI k146_15 (f := 0) rfl (q := 256) (n := 62) (kd := 15) ⟨by decide, rfl⟩ (by decide) rfl ?_
    refine x_rw (e_z2.symm) ?_
    refine x_callV k146_18 (y := 142) (n := 2) (w0 := 0) (w1 := 2) (as := [vi a, vi z2]) (rest := []) (by decide +kernel) (q := 256) (nq := 62) (kq := 15) ⟨by decide, rfl⟩ rfl rfl rfl rfl (xe_mono (C_X11_isThere_256 s0 hG0 a ⟨by omega, by omega⟩ z2 ⟨by omega, by omega⟩) ?_)
    rintro s7 v ⟨h_s7, z6, rfl, hz_z6⟩
    rw [h_s7]
    rcases hz_z6 with ⟨c_z6, e_z6, m_z6⟩ | ⟨e_z6, m_z6⟩
    · rw [e_z6]
      show xe none 146 21 [(0, .ref 256), (1, vi a)] [vi 1] s0 0 0 _
      refine x_if_ne k146_21 (t := 28) rfl ⟨by omega, by omega⟩ (fun c8 => ?_) (fun c8 => by exfalso; omega)
      refine x_A k146_28 (fun _ => rfl) ?_
      refine x_getI k146_29 (f := 1) rfl (q := 256) (n := 62) (kd := 15) ⟨by decide, rfl⟩ (by decide) rfl ?_
      refine x_rw (e_z1.symm) ?_
      refine x_bipush k146_32 (by decide +kernel) ?_
      refine x_ic_ne k146_34 (t := 41) rfl ⟨by omega, by omega⟩ ⟨by omega, by omega⟩ (fun c9 => ?_) (fun c9 => ?_)
      · skip
        refine x_A k146_41 (fun _ => rfl) ?_
        refine x_A k146_42 (fun _ => rfl) ?_
        refine x_callV k146_43 (y := 139) (n := 1) (w0 := 0) (w1 := 1) (as := [vi a]) (rest := []) (by decide +kernel) (q := 256) (nq := 62) (kq := 15) ⟨by decide, rfl⟩ rfl rfl rfl rfl (xe_mono (F_X11_tell_256 s0 hG0 a ⟨by omega, by omega⟩ ⟨by omega, by omega⟩ (by omega) i0_J) ?_)
        rintro s11 v ⟨hG_s11, t_s11, rfl, xp_z10, J_s11⟩
        have f_s11 : FL [4098, 4160, 4224, 4288, 4352] s0 s11 := f0.tr t_s11 (by decide)
        have q12 : s11 256 0 = z2 := (t_s11 256 0 (show 4097 ∉ [4098, 4160, 4224, 4288, 4352] from by decide)).trans e_z2.symm
        obtain ⟨z13, e_z13⟩ : ∃ z, z = s11 256 1 := ⟨_, rfl⟩
        have g_z13 : (1 : Int) ≤ s11 256 1 ∧ s11 256 1 ≤ 40 := hG_s11 256 1
        show xe none 146 46 [(0, .ref 256), (1, vi a)] [] s11 0 0 _
        refine x_A k146_46 (fun _ => rfl) ?_
        refine x_getI k146_47 (f := 1) rfl (q := 256) (n := 62) (kd := 15) ⟨by decide, rfl⟩ (by decide) rfl ?_
        refine x_rw (e_z13.symm) ?_
        refine x_A k146_50 (fun _ => rfl) ?_
        refine x_isub k146_51 ?_
        refine x_top (fun z14 e_z14 => ?_)
        exact x_iret k146_52 rfl ⟨hG_s11, f_s11, z14, rfl, ⟨by omega, by omega⟩, ⟨(by unfold MkR; exact Or.inr (Or.inr (Or.inr ⟨by omega, by omega, by omega, by omega, xp_z10.1, xp_z10.2.1, xp_z10.2.2.1⟩))), fun w => by exfalso; omega, fun _ j => by rw [xp_z10.2.2.2 j, show z14 = s0 256 1 by omega]⟩, J_s11⟩
      · skip
        refine x_sipush k146_37 (by decide +kernel) ?_
        exact x_iret k146_40 rfl ⟨hG0, f0, (-1004), rfl, ⟨by omega, by omega⟩, ⟨(by unfold MkR; exact Or.inr (Or.inr (Or.inl ⟨by omega, by omega, by omega, rfl, rfl, rfl, rfl⟩))), fun _ => rfl, fun w => absurd w (by decide)⟩, i0_J⟩
    · rw [e_z6]
      show xe none 146 21 [(0, .ref 256), (1, vi a)] [vi 0] s0 0 0 _
      refine x_if_ne k146_21 (t := 28) rfl ⟨by omega, by omega⟩ (fun c15 => by exfalso; omega) (fun c15 => ?_)
      refine x_sipush k146_24 (by decide +kernel) ?_
      exact x_iret k146_27 rfl ⟨hG0, f0, (-1003), rfl, ⟨by omega, by omega⟩, ⟨(by unfold MkR; exact Or.inr (Or.inl ⟨by omega, by omega, rfl, rfl, rfl, rfl⟩)), fun _ => rfl, fun w => absurd w (by decide)⟩, i0_J⟩
  · rw [e_z3]
    show xe none 146 5 [(0, .ref 256), (1, vi a)] [vi 0] s0 0 0 _
    refine x_if_ne k146_5 (t := 12) rfl ⟨by omega, by omega⟩ (fun c16 => by exfalso; omega) (fun c16 => ?_)
    refine x_sipush k146_8 (by decide +kernel) ?_
    exact x_iret k146_11 rfl ⟨hG0, f0, (-1001), rfl, ⟨by omega, by omega⟩, ⟨(by unfold MkR; exact Or.inl ⟨by omega, rfl, rfl, rfl, rfl⟩), fun _ => rfl, fun w => absurd w (by decide)⟩, i0_J⟩
theorem E_X10_move_0 (s0 : xS) (hG0 : GI s0) (a : Int) (b_a : (-2147483648) ≤ a ∧ a ≤ 2147483647) (b : Int) (b_b : (-2147483648) ≤ b ∧ b ≤ 2147483647) (p_1_4 : 1 ≤ s0 1 4 ∧ s0 1 4 ≤ 40) (p_0_10 : 0 ≤ s0 0 10 ∧ s0 0 10 ≤ 9) : xe none 93 0 (lv_args 0 [.ref 0, vi a, vi b]) [] s0 0 0 (fun s' v => GI s' ∧ FL [384, 3276, 3277] s0 s' ∧ ∃ z, v = some (vi z) ∧ ((-1004) ≤ z ∧ z ≤ 39) ∧ (MvC s0 s' a b z)) := by
  have f0 : FL [384, 3276, 3277] s0 s0 := FL.rf
  show xe none 93 0 [(0, .ref 0), (1, vi a), (2, vi b)] [] s0 0 0 _
  obtain ⟨z1, e_z1⟩ : ∃ z, z = s0 1 4 := ⟨_, rfl⟩
  have g_z1 : (1 : Int) ≤ s0 1 4 ∧ s0 1 4 ≤ 40 := hG0 1 4
  obtain ⟨z2, e_z2⟩ : ∃ z, z = s0 0 10 := ⟨_, rfl⟩
  have g_z2 : (0 : Int) ≤ s0 0 10 ∧ s0 0 10 ≤ 9 := hG0 0 10
  refine x_A k93_0 (fun _ => rfl) ?_
  refine x_getR k93_1 (f := 0) rfl (q := 0) (n := 12) (kd := 3) ⟨by decide, rfl⟩ (q2 := 1) (by decide) rfl ?_
  refine x_A k93_4 (fun _ => rfl) ?_
  refine x_callV k93_5 (y := 59) (n := 1) (w0 := 0) (w1 := 1) (as := [vi a]) (rest := []) (by decide +kernel) (q := 1) (nq := 5) (kq := 4) ⟨by decide, rfl⟩ rfl rfl rfl rfl (xe_mono (C_X7_has_1 s0 hG0 a ⟨by omega, by omega⟩) ?_)
  rintro s4 v ⟨h_s4, z3, rfl, hz_z3⟩
  rw [h_s4]
  rcases hz_z3 with ⟨c_z3, e_z3⟩ | ⟨c_z3, e_z3⟩
  · rw [e_z3]
    show xe none 93 8 [(0, .ref 0), (1, vi a), (2, vi b)] [vi 1] s0 0 0 _
    refine x_if_eq k93_8 (t := 22) rfl ⟨by omega, by omega⟩ (fun c5 => by exfalso; omega) (fun c5 => ?_)
    refine x_A k93_11 (fun _ => rfl) ?_
    refine x_getR k93_12 (f := 0) rfl (q := 0) (n := 12) (kd := 3) ⟨by decide, rfl⟩ (q2 := 1) (by decide) rfl ?_
    refine x_A k93_15 (fun _ => rfl) ?_
    refine x_callV k93_16 (y := 59) (n := 1) (w0 := 0) (w1 := 1) (as := [vi b]) (rest := []) (by decide +kernel) (q := 1) (nq := 5) (kq := 4) ⟨by decide, rfl⟩ rfl rfl rfl rfl (xe_mono (C_X7_has_1 s0 hG0 b ⟨by omega, by omega⟩) ?_)
    rintro s7 v ⟨h_s7, z6, rfl, hz_z6⟩
    rw [h_s7]
    rcases hz_z6 with ⟨c_z6, e_z6⟩ | ⟨c_z6, e_z6⟩
    · rw [e_z6]
      show xe none 93 19 [(0, .ref 0), (1, vi a), (2, vi b)] [vi 1] s0 0 0 _
      refine x_if_ne k93_19 (t := 26) rfl ⟨by omega, by omega⟩ (fun c8 => ?_) (fun c8 => by exfalso; omega)
      refine x_A k93_26 (fun _ => rfl) ?_
      refine x_if_eq k93_27 (t := 60) rfl ⟨by omega, by omega⟩ (fun c9 => ?_) (fun c9 => ?_)
      · skip
        refine x_sipush k93_60 (by decide +kernel) ?_
        exact x_iret k93_63 rfl ⟨hG0, f0, (-1003), rfl, ⟨by omega, by omega⟩, (by unfold MvC; exact Or.inr (Or.inl ⟨by omega, fun w => by obtain ⟨w1, -⟩ := w; omega, rfl, fun _ _ _ _ => rfl⟩))⟩
      · skip
        refine x_A k93_30 (fun _ => rfl) ?_
        refine x_getR k93_31 (f := 0) rfl (q := 0) (n := 12) (kd := 3) ⟨by decide, rfl⟩ (q2 := 1) (by decide) rfl ?_
        refine x_A k93_34 (fun _ => rfl) ?_
        refine x_A k93_35 (fun _ => rfl) ?_
        refine x_getI k93_36 (f := 10) rfl (q := 0) (n := 12) (kd := 3) ⟨by decide, rfl⟩ (by decide) rfl ?_
        refine x_rw (e_z2.symm) ?_
        refine x_callV k93_39 (y := 64) (n := 2) (w0 := 0) (w1 := 2) (as := [vi a, vi z2]) (rest := []) (by decide +kernel) (q := 1) (nq := 5) (kq := 4) ⟨by decide, rfl⟩ rfl rfl rfl rfl (xe_mono (E_X7_isThere_1 s0 hG0 a ⟨by omega, by omega⟩ z2 ⟨by omega, by omega⟩) ?_)
        rintro s11 v ⟨h_s11, z10, rfl, hz_z10⟩
        rw [h_s11]
        rcases hz_z10 with ⟨c_z10, e_z10, m_z10⟩ | ⟨e_z10, m_z10⟩
        · rw [e_z10]
          show xe none 93 42 [(0, .ref 0), (1, vi a), (2, vi b)] [vi 1] s0 0 0 _
          refine x_if_eq k93_42 (t := 60) rfl ⟨by omega, by omega⟩ (fun c12 => by exfalso; omega) (fun c12 => ?_)
          refine x_A k93_45 (fun _ => rfl) ?_
          refine x_getR k93_46 (f := 0) rfl (q := 0) (n := 12) (kd := 3) ⟨by decide, rfl⟩ (q2 := 1) (by decide) rfl ?_
          refine x_A k93_49 (fun _ => rfl) ?_
          refine x_A k93_50 (fun _ => rfl) ?_
          refine x_getI k93_51 (f := 10) rfl (q := 0) (n := 12) (kd := 3) ⟨by decide, rfl⟩ (by decide) rfl ?_
          refine x_rw (e_z2.symm) ?_
          refine x_callV k93_54 (y := 64) (n := 2) (w0 := 0) (w1 := 2) (as := [vi b, vi z2]) (rest := []) (by decide +kernel) (q := 1) (nq := 5) (kq := 4) ⟨by decide, rfl⟩ rfl rfl rfl rfl (xe_mono (E_X7_isThere_1 s0 hG0 b ⟨by omega, by omega⟩ z2 ⟨by omega, by omega⟩) ?_)
          rintro s14 v ⟨h_s14, z13, rfl, hz_z13⟩
          rw [h_s14]
          rcases hz_z13 with ⟨c_z13, e_z13, m_z13⟩ | ⟨e_z13, m_z13⟩
          · rw [e_z13]
            show xe none 93 57 [(0, .ref 0), (1, vi a), (2, vi b)] [vi 1] s0 0 0 _
            refine x_if_ne k93_57 (t := 64) rfl ⟨by omega, by omega⟩ (fun c15 => ?_) (fun c15 => by exfalso; omega)
            refine x_A k93_64 (fun _ => rfl) ?_
            refine x_getR k93_65 (f := 0) rfl (q := 0) (n := 12) (kd := 3) ⟨by decide, rfl⟩ (q2 := 1) (by decide) rfl ?_
            refine x_A k93_68 (fun _ => rfl) ?_
            refine x_A k93_69 (fun _ => rfl) ?_
            refine x_A k93_70 (fun _ => rfl) ?_
            refine x_getI k93_71 (f := 10) rfl (q := 0) (n := 12) (kd := 3) ⟨by decide, rfl⟩ (by decide) rfl ?_
            refine x_rw (e_z2.symm) ?_
            refine x_callV k93_74 (y := 66) (n := 3) (w0 := 0) (w1 := 3) (as := [vi b, vi a, vi z2]) (rest := []) (by decide +kernel) (q := 1) (nq := 5) (kq := 4) ⟨by decide, rfl⟩ rfl rfl rfl rfl (xe_mono (E_X7_isBelow_1 s0 hG0 b ⟨by omega, by omega⟩ a ⟨by omega, by omega⟩ z2 ⟨by omega, by omega⟩) ?_)
            rintro s17 v ⟨-, t_s17, z16, rfl, g_z16, xp_z16⟩
            rw [t_s17.nil]
            try rw [t_s17.nil] at xp_z16
            show xe none 93 77 [(0, .ref 0), (1, vi a), (2, vi b)] [vi z16] s0 0 0 _
            refine x_if_eq k93_77 (t := 84) rfl ⟨by omega, by omega⟩ (fun c18 => ?_) (fun c18 => ?_)
            · skip
              refine x_A k93_84 (fun _ => rfl) ?_
              refine x_getR k93_85 (f := 9) rfl (q := 0) (n := 12) (kd := 3) ⟨by decide, rfl⟩ (q2 := 243) (by decide) rfl ?_
              refine x_callV k93_88 (y := 73) (n := 0) (w0 := 0) (w1 := 0) (as := []) (rest := []) (by decide +kernel) (q := 243) (nq := 13) (kq := 13) ⟨by decide, rfl⟩ rfl rfl rfl rfl (xe_mono (C_X8_forget_243 s0 hG0) ?_)
              rintro s20 v ⟨hG_s20, t_s20, rfl⟩
              have f_s20 : FL [384, 3276, 3277] s0 s20 := f0.tr t_s20 (by decide)
              have q21 : s20 1 4 = z1 := (t_s20 1 4 (show 69 ∉ [3276, 3277] from by decide)).trans e_z1.symm
              have q22 : s20 0 10 = z2 := (t_s20 0 10 (show 11 ∉ [3276, 3277] from by decide)).trans e_z2.symm
              show xe none 93 91 [(0, .ref 0), (1, vi a), (2, vi b)] [] s20 0 0 _
              have FR := rows40 t_s20 (by decide)
              refine x_A k93_91 (fun _ => rfl) ?_
              refine x_getR k93_92 (f := 0) rfl (q := 0) (n := 12) (kd := 3) ⟨by decide, rfl⟩ (q2 := 1) (by decide) rfl ?_
              refine x_A k93_95 (fun _ => rfl) ?_
              refine x_A k93_96 (fun _ => rfl) ?_
              refine x_getI k93_97 (f := 10) rfl (q := 0) (n := 12) (kd := 3) ⟨by decide, rfl⟩ (by decide) rfl ?_
              refine x_rw (q22) ?_
              refine x_callV k93_100 (y := 62) (n := 2) (w0 := 0) (w1 := 2) (as := [vi a, vi z2]) (rest := []) (by decide +kernel) (q := 1) (nq := 5) (kq := 4) ⟨by decide, rfl⟩ rfl rfl rfl rfl (xe_mono (E_X7_parentIn_1 s20 hG_s20 a ⟨by omega, by omega⟩ z2 ⟨by omega, by omega⟩) ?_)
              rintro s24 v ⟨-, t_s24, z23, rfl, g_z23, xp_z23⟩
              rw [t_s24.nil]
              try rw [t_s24.nil] at xp_z23
              show xe none 93 103 [(0, .ref 0), (1, vi a), (2, vi b)] [vi z23] s20 0 0 _
              refine x_istore_n k93_103 (ls' := [(3, vi z23), (0, .ref 0), (1, vi a), (2, vi b)]) (by decide) rfl ?_
              refine x_A k93_104 (fun _ => rfl) ?_
              refine x_getR k93_105 (f := 0) rfl (q := 0) (n := 12) (kd := 3) ⟨by decide, rfl⟩ (q2 := 1) (by decide) rfl ?_
              refine x_A k93_108 (fun _ => rfl) ?_
              refine x_A k93_109 (fun _ => rfl) ?_
              refine x_A k93_110 (fun _ => rfl) ?_
              refine x_getI k93_111 (f := 10) rfl (q := 0) (n := 12) (kd := 3) ⟨by decide, rfl⟩ (by decide) rfl ?_
              refine x_rw (q22) ?_
              refine x_callV k93_114 (y := 61) (n := 3) (w0 := 0) (w1 := 3) (as := [vi a, vi b, vi z2]) (rest := []) (by decide +kernel) (q := 1) (nq := 5) (kq := 4) ⟨by decide, rfl⟩ rfl rfl rfl rfl (xe_mono (E_X7_setParent_1 s20 hG_s20 a ⟨by omega, by omega⟩ b ⟨by omega, by omega⟩ z2 ⟨by omega, by omega⟩ ⟨by omega, by omega⟩) ?_)
              rintro s26 v ⟨hG_s26, t_s26, rfl, xp_z25⟩
              have f_s26 : FL [384, 3276, 3277] s0 s26 := f_s20.tr t_s26 (by decide)
              have q27 : s26 1 4 = z1 := (t_s26 1 4 (show 69 ∉ [384] from by decide)).trans q21
              have q28 : s26 0 10 = z2 := (t_s26 0 10 (show 11 ∉ [384] from by decide)).trans q22
              show xe none 93 117 [(3, vi z23), (0, .ref 0), (1, vi a), (2, vi b)] [] s26 0 0 _
              refine x_A k93_117 (fun _ => rfl) ?_
              exact x_iret k93_118 rfl ⟨hG_s26, f_s26, z23, rfl, ⟨by omega, by omega⟩, (by unfold MvC; exact xp_z25.elim (fun u => by exfalso; omega) (fun u => Or.inr (Or.inr ⟨by omega, ⟨by omega, fun w => xp_z16.elim (fun q => by exfalso; omega) (fun q => q.2 ⟨by omega, by rw [show z2 = s0 0 10 by omega]; exact w⟩)⟩, by rw [xp_z23]; unfold parC; rw [if_pos (by omega), FR _ _ (by omega) (by omega), show z2 = s0 0 10 by omega], fun r j h1 h2 => by rw [u.2 r j h1 h2, FR r j h1 h2, show z2 = s0 0 10 by omega]⟩)))⟩
            · skip
              refine x_sipush k93_80 (by decide +kernel) ?_
              exact x_iret k93_83 rfl ⟨hG0, f0, (-1003), rfl, ⟨by omega, by omega⟩, (by unfold MvC; exact Or.inr (Or.inl ⟨by omega, fun w => xp_z16.elim (fun q => w.2 (by have q2 := q.2.2; rw [show z2 = s0 0 10 by omega] at q2; exact q2)) (fun q => by exfalso; omega), rfl, fun _ _ _ _ => rfl⟩))⟩
          · rw [e_z13]
            show xe none 93 57 [(0, .ref 0), (1, vi a), (2, vi b)] [vi 0] s0 0 0 _
            refine x_if_ne k93_57 (t := 64) rfl ⟨by omega, by omega⟩ (fun c29 => by exfalso; omega) (fun c29 => ?_)
            refine x_sipush k93_60 (by decide +kernel) ?_
            exact x_iret k93_63 rfl ⟨hG0, f0, (-1003), rfl, ⟨by omega, by omega⟩, (by unfold MvC; exact Or.inr (Or.inl ⟨by omega, fun w => by obtain ⟨w1, -⟩ := w; omega, rfl, fun _ _ _ _ => rfl⟩))⟩
        · rw [e_z10]
          show xe none 93 42 [(0, .ref 0), (1, vi a), (2, vi b)] [vi 0] s0 0 0 _
          refine x_if_eq k93_42 (t := 60) rfl ⟨by omega, by omega⟩ (fun c30 => ?_) (fun c30 => by exfalso; omega)
          refine x_sipush k93_60 (by decide +kernel) ?_
          exact x_iret k93_63 rfl ⟨hG0, f0, (-1003), rfl, ⟨by omega, by omega⟩, (by unfold MvC; exact Or.inr (Or.inl ⟨by omega, fun w => by obtain ⟨w1, -⟩ := w; omega, rfl, fun _ _ _ _ => rfl⟩))⟩
    · rw [e_z6]
      show xe none 93 19 [(0, .ref 0), (1, vi a), (2, vi b)] [vi 0] s0 0 0 _
      refine x_if_ne k93_19 (t := 26) rfl ⟨by omega, by omega⟩ (fun c31 => by exfalso; omega) (fun c31 => ?_)
      refine x_sipush k93_22 (by decide +kernel) ?_
      exact x_iret k93_25 rfl ⟨hG0, f0, (-1001), rfl, ⟨by omega, by omega⟩, (by unfold MvC; exact Or.inl ⟨by omega, rfl, fun _ _ _ _ => rfl⟩)⟩
  · rw [e_z3]
    show xe none 93 8 [(0, .ref 0), (1, vi a), (2, vi b)] [vi 0] s0 0 0 _
    refine x_if_eq k93_8 (t := 22) rfl ⟨by omega, by omega⟩ (fun c32 => ?_) (fun c32 => by exfalso; omega)
    refine x_sipush k93_22 (by decide +kernel) ?_
    exact x_iret k93_25 rfl ⟨hG0, f0, (-1001), rfl, ⟨by omega, by omega⟩, (by unfold MvC; exact Or.inl ⟨by omega, rfl, fun _ _ _ _ => rfl⟩)⟩
theorem E_X11_move_256 (s0 : xS) (hG0 : GI s0) (a : Int) (b_a : (-2147483648) ≤ a ∧ a ≤ 2147483647) (b : Int) (b_b : (-2147483648) ≤ b ∧ b ≤ 2147483647) (p_256_1 : 1 ≤ s0 256 1 ∧ s0 256 1 ≤ 40) (p_256_0 : 0 ≤ s0 256 0 ∧ s0 256 0 ≤ 9) (i0_J : J s0) : xe none 147 0 (lv_args 0 [.ref 256, vi a, vi b]) [] s0 0 0 (fun s' v => GI s' ∧ FL [4352] s0 s' ∧ ∃ z, v = some (vi z) ∧ ((-1004) ≤ z ∧ z ≤ 39) ∧ (MvR s0 s' a b z) ∧ J s') := by
  have f0 : FL [4352] s0 s0 := FL.rf
  show xe none 147 0 [(0, .ref 256), (1, vi a), (2, vi b)] [] s0 0 0 _
  obtain ⟨z1, e_z1⟩ : ∃ z, z = s0 256 1 := ⟨_, rfl⟩
  have g_z1 : (1 : Int) ≤ s0 256 1 ∧ s0 256 1 ≤ 40 := hG0 256 1
  obtain ⟨z2, e_z2⟩ : ∃ z, z = s0 256 0 := ⟨_, rfl⟩
  have g_z2 : (0 : Int) ≤ s0 256 0 ∧ s0 256 0 ≤ 9 := hG0 256 0
  refine x_A k147_0 (fun _ => rfl) ?_
  refine x_A k147_1 (fun _ => rfl) ?_
  refine x_callV k147_2 (y := 137) (n := 1) (w0 := 0) (w1 := 1) (as := [vi a]) (rest := []) (by decide +kernel) (q := 256) (nq := 62) (kq := 15) ⟨by decide, rfl⟩ rfl rfl rfl rfl (xe_mono (C_X11_isMark_256 s0 hG0 a ⟨by omega, by omega⟩) ?_)
  rintro s4 v ⟨h_s4, z3, rfl, hz_z3⟩
  rw [h_s4]
  rcases hz_z3 with ⟨c_z3, e_z3⟩ | ⟨c_z3, e_z3⟩
  · rw [e_z3]
    show xe none 147 5 [(0, .ref 256), (1, vi a), (2, vi b)] [vi 1] s0 0 0 _
    refine x_if_eq k147_5 (t := 16) rfl ⟨by omega, by omega⟩ (fun c5 => by exfalso; omega) (fun c5 => ?_)
    refine x_A k147_8 (fun _ => rfl) ?_
    refine x_A k147_9 (fun _ => rfl) ?_
    refine x_callV k147_10 (y := 137) (n := 1) (w0 := 0) (w1 := 1) (as := [vi b]) (rest := []) (by decide +kernel) (q := 256) (nq := 62) (kq := 15) ⟨by decide, rfl⟩ rfl rfl rfl rfl (xe_mono (C_X11_isMark_256 s0 hG0 b ⟨by omega, by omega⟩) ?_)
    rintro s7 v ⟨h_s7, z6, rfl, hz_z6⟩
    rw [h_s7]
    rcases hz_z6 with ⟨c_z6, e_z6⟩ | ⟨c_z6, e_z6⟩
    · rw [e_z6]
      show xe none 147 13 [(0, .ref 256), (1, vi a), (2, vi b)] [vi 1] s0 0 0 _
      refine x_if_ne k147_13 (t := 20) rfl ⟨by omega, by omega⟩ (fun c8 => ?_) (fun c8 => by exfalso; omega)
      refine x_A k147_20 (fun _ => rfl) ?_
      refine x_if_eq k147_21 (t := 61) rfl ⟨by omega, by omega⟩ (fun c9 => ?_) (fun c9 => ?_)
      · skip
        refine x_sipush k147_61 (by decide +kernel) ?_
        exact x_iret k147_64 rfl ⟨hG0, f0, (-1003), rfl, ⟨by omega, by omega⟩, (by unfold MvR; exact Or.inr (Or.inl ⟨by omega, fun w => by obtain ⟨w1, -⟩ := w; omega, rfl, rfl⟩)), i0_J⟩
      · skip
        refine x_A k147_24 (fun _ => rfl) ?_
        refine x_A k147_25 (fun _ => rfl) ?_
        refine x_A k147_26 (fun _ => rfl) ?_
        refine x_getI k147_27 (f := 0) rfl (q := 256) (n := 62) (kd := 15) ⟨by decide, rfl⟩ (by decide) rfl ?_
        refine x_rw (e_z2.symm) ?_
        refine x_callV k147_30 (y := 142) (n := 2) (w0 := 0) (w1 := 2) (as := [vi a, vi z2]) (rest := []) (by decide +kernel) (q := 256) (nq := 62) (kq := 15) ⟨by decide, rfl⟩ rfl rfl rfl rfl (xe_mono (C_X11_isThere_256 s0 hG0 a ⟨by omega, by omega⟩ z2 ⟨by omega, by omega⟩) ?_)
        rintro s11 v ⟨h_s11, z10, rfl, hz_z10⟩
        rw [h_s11]
        rcases hz_z10 with ⟨c_z10, e_z10, m_z10⟩ | ⟨e_z10, m_z10⟩
        · rw [e_z10]
          show xe none 147 33 [(0, .ref 256), (1, vi a), (2, vi b)] [vi 1] s0 0 0 _
          refine x_if_eq k147_33 (t := 61) rfl ⟨by omega, by omega⟩ (fun c12 => by exfalso; omega) (fun c12 => ?_)
          refine x_A k147_36 (fun _ => rfl) ?_
          refine x_A k147_37 (fun _ => rfl) ?_
          refine x_A k147_38 (fun _ => rfl) ?_
          refine x_getI k147_39 (f := 0) rfl (q := 256) (n := 62) (kd := 15) ⟨by decide, rfl⟩ (by decide) rfl ?_
          refine x_rw (e_z2.symm) ?_
          refine x_callV k147_42 (y := 142) (n := 2) (w0 := 0) (w1 := 2) (as := [vi b, vi z2]) (rest := []) (by decide +kernel) (q := 256) (nq := 62) (kq := 15) ⟨by decide, rfl⟩ rfl rfl rfl rfl (xe_mono (C_X11_isThere_256 s0 hG0 b ⟨by omega, by omega⟩ z2 ⟨by omega, by omega⟩) ?_)
          rintro s14 v ⟨h_s14, z13, rfl, hz_z13⟩
          rw [h_s14]
          rcases hz_z13 with ⟨c_z13, e_z13, m_z13⟩ | ⟨e_z13, m_z13⟩
          · rw [e_z13]
            show xe none 147 45 [(0, .ref 256), (1, vi a), (2, vi b)] [vi 1] s0 0 0 _
            refine x_if_eq k147_45 (t := 61) rfl ⟨by omega, by omega⟩ (fun c15 => by exfalso; omega) (fun c15 => ?_)
            refine x_A k147_48 (fun _ => rfl) ?_
            refine x_A k147_49 (fun _ => rfl) ?_
            refine x_A k147_50 (fun _ => rfl) ?_
            refine x_A k147_51 (fun _ => rfl) ?_
            refine x_getI k147_52 (f := 0) rfl (q := 256) (n := 62) (kd := 15) ⟨by decide, rfl⟩ (by decide) rfl ?_
            refine x_rw (e_z2.symm) ?_
            refine x_callV k147_55 (y := 143) (n := 3) (w0 := 0) (w1 := 3) (as := [vi b, vi a, vi z2]) (rest := []) (by decide +kernel) (q := 256) (nq := 62) (kq := 15) ⟨by decide, rfl⟩ rfl rfl rfl rfl (xe_mono (E_X11_isBelow_256 s0 hG0 i0_J b ⟨by omega, by omega⟩ a ⟨by omega, by omega⟩ z2 ⟨by omega, by omega⟩) ?_)
            rintro s17 v ⟨-, t_s17, z16, rfl, g_z16, xp_z16⟩
            rw [t_s17.nil]
            try rw [t_s17.nil] at xp_z16
            show xe none 147 58 [(0, .ref 256), (1, vi a), (2, vi b)] [vi z16] s0 0 0 _
            refine x_if_eq k147_58 (t := 65) rfl ⟨by omega, by omega⟩ (fun c18 => ?_) (fun c18 => ?_)
            · skip
              have nb : ∀ k, xup s0 z2 k b ≠ a := fun k hk => xp_z16.elim (fun q => by exfalso; omega) (fun q => q.2 ⟨by omega, k, hk⟩)
              refine x_A k147_65 (fun _ => rfl) ?_
              refine x_getR k147_66 (f := 5) rfl (q := 256) (n := 62) (kd := 15) ⟨by decide, rfl⟩ (q2 := 260) (by decide) rfl ?_
              refine x_bipush k147_69 (by decide +kernel) ?_
              refine x_A k147_71 (fun _ => rfl) ?_
              refine x_imul k147_72 ?_
              refine x_top (fun z19 e_z19 => ?_)
              refine x_A k147_73 (fun _ => rfl) ?_
              refine x_getI k147_74 (f := 0) rfl (q := 256) (n := 62) (kd := 15) ⟨by decide, rfl⟩ (by decide) rfl ?_
              refine x_rw (e_z2.symm) ?_
              refine x_iadd k147_77 ?_
              refine x_top (fun z20 e_z20 => ?_)
              refine x_iald k147_78 (q := 260) (n := 400) ⟨by decide, rfl⟩ (by decide) ⟨by omega, by omega⟩ ?_
              refine x_top (fun z21 e_z21 => ?_)
              have g_z21 : (-1) ≤ s0 260 z20.toNat ∧ s0 260 z20.toNat ≤ 39 := hG0 260 z20.toNat
              refine x_istore_n k147_79 (ls' := [(3, vi z21), (0, .ref 256), (1, vi a), (2, vi b)]) (by decide) rfl ?_
              refine x_A k147_80 (fun _ => rfl) ?_
              refine x_A k147_81 (fun _ => rfl) ?_
              refine x_A k147_82 (fun _ => rfl) ?_
              refine x_callV k147_83 (y := 140) (n := 2) (w0 := 0) (w1 := 2) (as := [vi a, vi b]) (rest := []) (by decide +kernel) (q := 256) (nq := 62) (kq := 15) ⟨by decide, rfl⟩ rfl rfl rfl rfl (xe_mono (D_X11_hang_256 s0 hG0 a ⟨by omega, by omega⟩ b ⟨by omega, by omega⟩) ?_)
              rintro s23 v ⟨hG_s23, t_s23, rfl, xp_z22⟩
              have f_s23 : FL [4352] s0 s23 := f0.tr t_s23 (by decide)
              have q24 : s23 256 1 = z1 := (t_s23 256 1 (show 4098 ∉ [4352] from by decide)).trans e_z1.symm
              have q25 : s23 256 0 = z2 := (t_s23 256 0 (show 4097 ∉ [4352] from by decide)).trans e_z2.symm
              show xe none 147 86 [(3, vi z21), (0, .ref 256), (1, vi a), (2, vi b)] [] s23 0 0 _
              have J_h : J s23 := J.hang i0_J hG0 (m := a) (p := b) ⟨by omega, by omega⟩ ⟨by omega, by omega⟩ (by rw [← show z2 = s0 256 0 by omega]; exact nb) t_s23 xp_z22
              refine x_A k147_86 (fun _ => rfl) ?_
              exact x_iret k147_87 rfl ⟨hG_s23, f_s23, z21, rfl, ⟨by omega, by omega⟩, (by unfold MvR; exact Or.inr (Or.inr ⟨by omega, ⟨by omega, fun ⟨k, hk⟩ => nb k (by rw [show z2 = s0 256 0 by omega]; exact hk)⟩, by rw [e_z21, show z20 = 10 * a + s0 256 0 by omega], xp_z22⟩)), J_h⟩
            · skip
              refine x_sipush k147_61 (by decide +kernel) ?_
              exact x_iret k147_64 rfl ⟨hG0, f0, (-1003), rfl, ⟨by omega, by omega⟩, (by unfold MvR; exact Or.inr (Or.inl ⟨by omega, fun w => xp_z16.elim (fun q => w.2 (by obtain ⟨k, hk⟩ := q.2.2; exact ⟨k, by rw [← show z2 = s0 256 0 by omega]; exact hk⟩)) (fun q => by exfalso; omega), rfl, rfl⟩)), i0_J⟩
          · rw [e_z13]
            show xe none 147 45 [(0, .ref 256), (1, vi a), (2, vi b)] [vi 0] s0 0 0 _
            refine x_if_eq k147_45 (t := 61) rfl ⟨by omega, by omega⟩ (fun c26 => ?_) (fun c26 => by exfalso; omega)
            refine x_sipush k147_61 (by decide +kernel) ?_
            exact x_iret k147_64 rfl ⟨hG0, f0, (-1003), rfl, ⟨by omega, by omega⟩, (by unfold MvR; exact Or.inr (Or.inl ⟨by omega, fun w => by obtain ⟨w1, -⟩ := w; omega, rfl, rfl⟩)), i0_J⟩
        · rw [e_z10]
          show xe none 147 33 [(0, .ref 256), (1, vi a), (2, vi b)] [vi 0] s0 0 0 _
          refine x_if_eq k147_33 (t := 61) rfl ⟨by omega, by omega⟩ (fun c27 => ?_) (fun c27 => by exfalso; omega)
          refine x_sipush k147_61 (by decide +kernel) ?_
          exact x_iret k147_64 rfl ⟨hG0, f0, (-1003), rfl, ⟨by omega, by omega⟩, (by unfold MvR; exact Or.inr (Or.inl ⟨by omega, fun w => by obtain ⟨w1, -⟩ := w; omega, rfl, rfl⟩)), i0_J⟩
    · rw [e_z6]
      show xe none 147 13 [(0, .ref 256), (1, vi a), (2, vi b)] [vi 0] s0 0 0 _
      refine x_if_ne k147_13 (t := 20) rfl ⟨by omega, by omega⟩ (fun c28 => by exfalso; omega) (fun c28 => ?_)
      refine x_sipush k147_16 (by decide +kernel) ?_
      exact x_iret k147_19 rfl ⟨hG0, f0, (-1001), rfl, ⟨by omega, by omega⟩, (by unfold MvR; exact Or.inl ⟨by omega, rfl, rfl⟩), i0_J⟩
  · rw [e_z3]
    show xe none 147 5 [(0, .ref 256), (1, vi a), (2, vi b)] [vi 0] s0 0 0 _
    refine x_if_eq k147_5 (t := 16) rfl ⟨by omega, by omega⟩ (fun c29 => ?_) (fun c29 => by exfalso; omega)
    refine x_sipush k147_16 (by decide +kernel) ?_
    exact x_iret k147_19 rfl ⟨hG0, f0, (-1001), rfl, ⟨by omega, by omega⟩, (by unfold MvR; exact Or.inl ⟨by omega, rfl, rfl⟩), i0_J⟩
