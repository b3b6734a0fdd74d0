theorem L_C_X7_setParent_1_16 (s0 : xS)   : ∀ (n : Nat) (s : xS) (x1 : Int) (x2 : Int) (x3 : Int) (x4 : Int) (hG : GI s) (f : FL [384] s0 s) (b_x1 : 0 ≤ x1 ∧ x1 ≤ 39) (b_x2 : (-1) ≤ x2 ∧ x2 ≤ 39) (b_x3 : 0 ≤ x3 ∧ x3 ≤ 9) (b_x4 : 0 ≤ x4 ∧ x4 ≤ 10)  (hm : (10 - x4) < (n : Int)), xe none 61 16 [(0, .ref 1), (1, vi x1), (2, vi x2), (3, vi x3), (4, vi x4)] [] s 0 0 (fun s' v => GI s' ∧ FL [384] s0 s' ∧ v = none) := by
  intro n
  induction n with
  | zero => intro s x1 x2 x3 x4 hG f b_x1 b_x2 b_x3 b_x4  hm; exfalso; omega
  | succ n ih =>
    intro s x1 x2 x3 x4 hG f b_x1 b_x2 b_x3 b_x4  hm
    refine x_A k61_16 (fun _ => rfl) ?_
    refine x_bipush k61_18 (by decide +kernel) ?_
    refine x_ic_ge k61_20 (t := 39) rfl (by first | exact x_rb b_x4 rfl rfl | exact ⟨by omega, by omega⟩) ⟨by decide, by decide⟩ (fun c27 => ?_) (fun c27 => ?_)
    · skip
      exact x_vret k61_39 rfl ⟨hG, f, rfl⟩
    · skip
      refine x_A k61_23 (fun _ => rfl) ?_
      refine x_getR k61_24 (f := 3) rfl (q := 1) (n := 5) (kd := 4) ⟨by decide, rfl⟩ (q2 := 5) (by decide) rfl ?_
      refine x_A k61_27 (fun _ => rfl) ?_
      refine x_aald k61_28 (q := 5) (t := 23) (n := 40) ⟨by decide, rfl⟩ (by decide) (by decide) ⟨by omega, by omega⟩ ?_
      refine x_A k61_29 (fun _ => rfl) ?_
      refine x_A k61_31 (fun _ => rfl) ?_
      refine x_iast k61_32 (q := (5 + 1 + x1.toNat)) (n := 10) (xg_6 (by omega) (by omega)) (by decide) (by first | exact x_rbl b_x4 rfl rfl | exact ⟨by omega, by omega⟩) ?_
      refine x_nh (fun s28 e_s28 => ?_)
      have w29 := gr_6 x4.toNat (show 6 ≤ (5 + 1 + x1.toNat) by omega) (by omega)
      have hG_s28 : GI s28 := by rw [e_s28]; exact hG.up (by rw [w29.1, w29.2.1]; exact (show (-1) ≤ x2 ∧ x2 ≤ 39 from (by first | exact x_rb b_x2 rfl rfl | exact ⟨by omega, by omega⟩)))
      have f_s28 : FL [384] s0 s28 := by rw [e_s28]; exact f.up (by rw [w29.2.2]; decide)
      have q30 : s28 (5 + 1 + x1.toNat) x4.toNat = x2 := by rw [e_s28]; exact x_up_same
      refine x_iinc k61_33 (ls' := [(4, vi (x4 + 1)), (0, .ref 1), (1, vi x1), (2, vi x2), (3, vi x3)]) rfl (by decide) rfl ?_
      refine x_goto k61_36 (t := 16) rfl ?_
      refine x_ls (l := [(0, .ref 1), (1, vi x1), (2, vi x2), (3, vi x3), (4, vi (x4 + 1))]) (show ([0, 1, 2, 3, 4] : List Nat).Nodup from by decide +kernel) ⟨rfl, rfl, rfl, rfl, rfl, trivial⟩ ?_
      exact ih s28 x1 x2 x3 (x4 + 1) hG_s28 f_s28 (by first | exact x_rb b_x1 rfl rfl | exact ⟨by omega, by omega⟩) (by first | exact x_rb b_x2 rfl rfl | exact ⟨by omega, by omega⟩) (by first | exact x_rb b_x3 rfl rfl | exact ⟨by omega, by omega⟩) ⟨by omega, by omega⟩  (by omega)
theorem C_X7_setParent_1 (s0 : xS) (hG0 : GI s0) (a : Int) (b_a : (-2147483648) ≤ a ∧ a ≤ 2147483647) (b : Int) (b_b : (-1) ≤ b ∧ b ≤ 39) (d : Int) (b_d : 0 ≤ d ∧ d ≤ 9) : xe none 61 0 (lv_args 0 [.ref 1, vi a, vi b, vi d]) [] s0 0 0 (fun s' v => GI s' ∧ FL [384] s0 s' ∧ v = none) := by
  have f0 : FL [384] s0 s0 := FL.rf
  show xe none 61 0 [(0, .ref 1), (1, vi a), (2, vi b), (3, vi d)] [] s0 0 0 _
  refine x_A k61_0 (fun _ => rfl) ?_
  refine x_A k61_1 (fun _ => rfl) ?_
  obtain ⟨z31, e_z31⟩ : ∃ z, z = s0 1 4 := ⟨_, rfl⟩
  have g_z31 : (1 : Int) ≤ s0 1 4 ∧ s0 1 4 ≤ 40 := hG0 1 4
  refine x_callV k61_2 (y := 59) (n := 1) (w0 := 0) (w1 := 1) (as := [vi a]) (rest := []) (by decide +kernel) (q := 1) (nq := 5) (kq := 4) ⟨by decide, rfl⟩ rfl rfl rfl rfl (xe_mono (C_X7_has_1 s0 hG0 a (by first | exact x_rb b_a rfl rfl | exact ⟨by omega, by omega⟩)) ?_)
  rintro s33 v ⟨h_s33, z32, rfl, hz_z32⟩
  rw [h_s33]
  rcases hz_z32 with ⟨c_z32, e_z32⟩ | ⟨c_z32, e_z32⟩
  · rw [e_z32]
    show xe none 61 5 [(0, .ref 1), (1, vi a), (2, vi b), (3, vi d)] [vi 1] s0 0 0 _
    refine x_if_ne k61_5 (t := 9) rfl ⟨by decide, by decide⟩ (fun c34 => ?_) (fun c34 => by exfalso; omega)
    refine x_A k61_9 (fun _ => rfl) ?_
    refine x_A k61_10 (fun _ => rfl) ?_
    refine x_callS k61_11 (y := 220) (n := 2) (w0 := 0) (w1 := 2) (as := [vi 0, vi d]) (rest := []) (by decide +kernel) rfl rfl rfl rfl (xe_mono (C_J9_max_7cf53 s0 hG0 0 ⟨by decide, by decide⟩ d (by first | exact x_rb b_d rfl rfl | exact ⟨by omega, by omega⟩)) ?_)
    rintro s36 v ⟨h_s36, z35, rfl, g_z35⟩
    rw [h_s36]
    show xe none 61 14 [(0, .ref 1), (1, vi a), (2, vi b), (3, vi d)] [vi z35] s0 0 0 _
    refine x_istore k61_14 (ls' := [(4, vi z35), (0, .ref 1), (1, vi a), (2, vi b), (3, vi d)]) (by decide) rfl ?_
    refine x_ls (l := [(0, .ref 1), (1, vi a), (2, vi b), (3, vi d), (4, vi z35)]) (show ([0, 1, 2, 3, 4] : List Nat).Nodup from by decide +kernel) ⟨rfl, rfl, rfl, rfl, rfl, trivial⟩ ?_
    exact L_C_X7_setParent_1_16 s0   (((10 - z35) + 1 : Int)).toNat s0 a b d z35 hG0 f0 (by first | exact x_rb b_a rfl rfl | exact ⟨by omega, by omega⟩) (by first | exact x_rb b_b rfl rfl | exact ⟨by omega, by omega⟩) (by first | exact x_rb b_d rfl rfl | exact ⟨by omega, by omega⟩) (by first | exact x_rbe e_z35 g_z35 rfl rfl | exact x_rb g_z35 rfl rfl | exact ⟨by omega, by omega⟩)  (by omega)
  · rw [e_z32]
    show xe none 61 5 [(0, .ref 1), (1, vi a), (2, vi b), (3, vi d)] [vi 0] s0 0 0 _
    refine x_if_ne k61_5 (t := 9) rfl ⟨by decide, by decide⟩ (fun c37 => by exfalso; omega) (fun c37 => ?_)
    exact x_vret k61_8 rfl ⟨hG0, f0, rfl⟩
theorem C_X7_add_1 (s0 : xS) (hG0 : GI s0) (a : Int) (b_a : (-1) ≤ a ∧ a ≤ 39) (b : Int) (b_b : 0 ≤ b ∧ b ≤ 9) : xe none 60 0 (lv_args 0 [.ref 1, vi a, vi b]) [] s0 0 0 (fun s' v => GI s' ∧ FL [69, 128, 384] s0 s' ∧ ∃ z, v = some (vi z) ∧ ((-1004) ≤ z ∧ z ≤ 39)) := by
  have f0 : FL [69, 128, 384] s0 s0 := FL.rf
  show xe none 60 0 [(0, .ref 1), (1, vi a), (2, vi b)] [] s0 0 0 _
  refine x_A k60_0 (fun _ => rfl) ?_
  refine x_getI k60_1 (f := 4) rfl (q := 1) (n := 5) (kd := 4) ⟨by decide, rfl⟩ (by decide) rfl ?_
  refine x_top (fun z1 e_z1 => ?_)
  have g_z1 : (1 : Int) ≤ s0 1 4 ∧ s0 1 4 ≤ 40 := hG0 1 4
  refine x_istore_n k60_4 (ls' := [(3, vi z1), (0, .ref 1), (1, vi a), (2, vi b)]) (by decide) rfl ?_
  refine x_A k60_5 (fun _ => rfl) ?_
  refine x_bipush k60_6 (by decide +kernel) ?_
  refine x_ic_lt k60_8 (t := 15) rfl (by first | exact x_rbe e_z1 g_z1 rfl rfl | exact x_rb g_z1 rfl rfl | exact ⟨by omega, by omega⟩) ⟨by decide, by decide⟩ (fun c2 => ?_) (fun c2 => ?_)
  · skip
    refine x_A k60_15 (fun _ => rfl) ?_
    refine x_getR k60_16 (f := 0) rfl (q := 1) (n := 5) (kd := 4) ⟨by decide, rfl⟩ (q2 := 2) (by decide) rfl ?_
    refine x_A k60_19 (fun _ => rfl) ?_
    refine x_A k60_20 (fun _ => rfl) ?_
    refine x_iast k60_21 (q := 2) (n := 40) ⟨by decide, rfl⟩ (by decide) (by first | exact x_rbel e_z1 g_z1 rfl rfl | exact x_rbl g_z1 rfl rfl | exact ⟨by omega, by omega⟩) ?_
    refine x_nh (fun s3 e_s3 => ?_)
    have hG_s3 : GI s3 := by rw [e_s3]; exact hG0.up (show 0 ≤ b ∧ b ≤ 9 from (by first | exact x_rb b_b rfl rfl | exact ⟨by omega, by omega⟩))
    have f_s3 : FL [69, 128, 384] s0 s3 := by rw [e_s3]; exact f0.up (show 128 ∈ [69, 128, 384] from by decide +kernel)
    have q4 : s3 1 4 = z1 := by rw [e_s3, x_up_q (by decide)]; exact e_z1.symm
    have q5 : s3 2 z1.toNat = b := by rw [e_s3]; exact x_up_same
    refine x_A k60_22 (fun _ => rfl) ?_
    refine x_A k60_23 (fun _ => rfl) ?_
    refine x_getI k60_24 (f := 4) rfl (q := 1) (n := 5) (kd := 4) ⟨by decide, rfl⟩ (by decide) rfl ?_
    rw [q4]
    refine x_A k60_27 (fun _ => rfl) ?_
    refine x_iadd k60_28 ?_
    refine x_top (fun z6 e_z6 => ?_)
    refine x_putI k60_29 (f := 4) rfl (q := 1) (n := 5) (kd := 4) ⟨by decide, rfl⟩ rfl rfl rfl ?_
    refine x_nh (fun s7 e_s7 => ?_)
    have hG_s7 : GI s7 := by rw [e_s7]; exact hG_s3.up (show 1 ≤ z6 ∧ z6 ≤ 40 from (by first | exact x_rbe e_z6 g_z6 rfl rfl | exact x_rb g_z6 rfl rfl | exact ⟨by omega, by omega⟩))
    have f_s7 : FL [69, 128, 384] s0 s7 := by rw [e_s7]; exact f_s3.up (show 69 ∈ [69, 128, 384] from by decide +kernel)
    have q8 : s7 1 4 = z6 := by rw [e_s7]; exact x_up_same
    have q9 : s7 2 z1.toNat = b := by rw [e_s7, x_up_q (by first | decide | omega)]; exact q5
    refine x_A k60_32 (fun _ => rfl) ?_
    refine x_A k60_33 (fun _ => rfl) ?_
    refine x_A k60_34 (fun _ => rfl) ?_
    refine x_A k60_35 (fun _ => rfl) ?_
    refine x_callV k60_36 (y := 61) (n := 3) (w0 := 0) (w1 := 3) (as := [vi z1, vi a, vi b]) (rest := []) (by decide +kernel) (q := 1) (nq := 5) (kq := 4) ⟨by decide, rfl⟩ rfl rfl rfl rfl (xe_mono (C_X7_setParent_1 s7 hG_s7 z1 (by first | exact x_rbe e_z1 g_z1 rfl rfl | exact x_rb g_z1 rfl rfl | exact ⟨by omega, by omega⟩) a (by first | exact x_rb b_a rfl rfl | exact ⟨by omega, by omega⟩) b (by first | exact x_rb b_b rfl rfl | exact ⟨by omega, by omega⟩)) ?_)
    rintro s11 v ⟨hG_s11, t_s11, rfl⟩
    have f_s11 : FL [69, 128, 384] s0 s11 := f_s7.tr t_s11 (by decide +kernel)
    have q12 : s11 1 4 = z6 := (t_s11 1 4 (show 69 ∉ [384] from by decide +kernel)).trans q8
    have q13 : s11 2 z1.toNat = b := (t_s11 2 z1.toNat (show 128 ∉ [384] from by decide +kernel)).trans q9
    show xe none 60 39 [(3, vi z1), (0, .ref 1), (1, vi a), (2, vi b)] [] s11 0 0 _
    refine x_A k60_39 (fun _ => rfl) ?_
    exact x_iret k60_40 rfl ⟨hG_s11, f_s11, z1, rfl, (by first | exact x_rbe e_z1 g_z1 rfl rfl | exact x_rb g_z1 rfl rfl | exact ⟨by omega, by omega⟩)⟩
  · skip
    refine x_sipush k60_11 (by decide +kernel) ?_
    exact x_iret k60_14 rfl ⟨hG0, f0, (-1004), rfl, ⟨by decide, by decide⟩⟩
theorem L_C_X7_pathUp_1_8 (s0 : xS)   : ∀ (n : Nat) (s : xS) (x1 : Int) (x2 : Int) (x3 : Int) (x5 : Int) (x6 : Int) (hG : GI s) (f : FL [] s0 s) (b_x1 : (-2147483648) ≤ x1 ∧ x1 ≤ 2147483647) (b_x2 : (-2147483648) ≤ x2 ∧ x2 ≤ 2147483647) (b_x3 : in64 x3) (b_x5 : (-2147483648) ≤ x5 ∧ x5 ≤ 2147483647) (b_x6 : 0 ≤ x6 ∧ x6 ≤ 40)  (hm : (40 - x6) < (n : Int)), xe none 65 8 [(0, .ref 1), (1, vi x1), (2, vi x2), (3, vj x3), (5, vi x5), (6, vi x6)] [] s 0 0 (fun s' v => GI s' ∧ FL [] s0 s' ∧ ∃ z, v = some (vj z) ∧ in64 z) := by
  intro n
  induction n with
  | zero => intro s x1 x2 x3 x5 x6 hG f b_x1 b_x2 b_x3 b_x5 b_x6  hm; exfalso; omega
  | succ n ih =>
    intro s x1 x2 x3 x5 x6 hG f b_x1 b_x2 b_x3 b_x5 b_x6  hm
    refine x_A k65_8 (fun _ => rfl) ?_
    refine x_bipush k65_10 (by decide +kernel) ?_
    refine x_ic_ge k65_12 (t := 46) rfl (by first | exact x_rb b_x6 rfl rfl | exact ⟨by omega, by omega⟩) ⟨by decide, by decide⟩ (fun c141 => ?_) (fun c141 => ?_)
    · skip
      refine x_A k65_46 (fun _ => rfl) ?_
      exact x_lret k65_47 rfl ⟨hG, f, x3, rfl, b_x3⟩
    · skip
      refine x_A k65_15 (fun _ => rfl) ?_
      refine x_A k65_16 (fun _ => rfl) ?_
      obtain ⟨z142, e_z142⟩ : ∃ z, z = s 1 4 := ⟨_, rfl⟩
      have g_z142 : (1 : Int) ≤ s 1 4 ∧ s 1 4 ≤ 40 := hG 1 4
      refine x_callV k65_18 (y := 59) (n := 1) (w0 := 0) (w1 := 1) (as := [vi x5]) (rest := []) (by decide +kernel) (q := 1) (nq := 5) (kq := 4) ⟨by decide, rfl⟩ rfl rfl rfl rfl (xe_mono (C_X7_has_1 s hG x5 (by first | exact x_rb b_x5 rfl rfl | exact ⟨by omega, by omega⟩)) ?_)
      rintro s144 v ⟨h_s144, z143, rfl, hz_z143⟩
      rw [h_s144]
      rcases hz_z143 with ⟨c_z143, e_z143⟩ | ⟨c_z143, e_z143⟩
      · rw [e_z143]
        show xe none 65 21 [(0, .ref 1), (1, vi x1), (2, vi x2), (3, vj x3), (5, vi x5), (6, vi x6)] [vi 1] s 0 0 _
        refine x_if_eq k65_21 (t := 46) rfl ⟨by decide, by decide⟩ (fun c145 => by exfalso; omega) (fun c145 => ?_)
        refine x_A k65_24 (fun _ => rfl) ?_
        refine x_lconst k65_25 (z := 1) (by decide +kernel) ?_
        refine x_A k65_26 (fun _ => rfl) ?_
        refine x_lshl_any k65_28 (fun z146 b_z146 => ?_)
        refine x_lor_any k65_29 (fun z147 b_z147 => ?_)
        refine x_lstore_n k65_30 (ls' := [(3, vj z147), (0, .ref 1), (1, vi x1), (2, vi x2), (5, vi x5), (6, vi x6)]) (by decide) rfl ?_
        refine x_A k65_31 (fun _ => rfl) ?_
        refine x_A k65_32 (fun _ => rfl) ?_
        refine x_A k65_34 (fun _ => rfl) ?_
        refine x_callV k65_35 (y := 62) (n := 2) (w0 := 0) (w1 := 2) (as := [vi x5, vi x2]) (rest := []) (by decide +kernel) (q := 1) (nq := 5) (kq := 4) ⟨by decide, rfl⟩ rfl rfl rfl rfl (xe_mono (C_X7_parentIn_1 s hG x5 (by first | exact x_rb b_x5 rfl rfl | exact ⟨by omega, by omega⟩) x2 (by first | exact x_rb b_x2 rfl rfl | exact ⟨by omega, by omega⟩)) ?_)
        rintro s149 v ⟨-, t_s149, z148, rfl, g_z148⟩
        rw [t_s149.nil]
        show xe none 65 38 [(3, vj z147), (0, .ref 1), (1, vi x1), (2, vi x2), (5, vi x5), (6, vi x6)] [vi z148] s 0 0 _
        refine x_istore k65_38 (ls' := [(5, vi z148), (3, vj z147), (0, .ref 1), (1, vi x1), (2, vi x2), (6, vi x6)]) (by decide) rfl ?_
        refine x_iinc k65_40 (ls' := [(6, vi (x6 + 1)), (5, vi z148), (3, vj z147), (0, .ref 1), (1, vi x1), (2, vi x2)]) rfl (by decide) rfl ?_
        refine x_goto k65_43 (t := 8) rfl ?_
        refine x_ls (l := [(0, .ref 1), (1, vi x1), (2, vi x2), (3, vj z147), (5, vi z148), (6, vi (x6 + 1))]) (show ([0, 1, 2, 3, 5, 6] : List Nat).Nodup from by decide +kernel) ⟨rfl, rfl, rfl, rfl, rfl, rfl, trivial⟩ ?_
        exact ih s x1 x2 z147 z148 (x6 + 1) hG f (by first | exact x_rb b_x1 rfl rfl | exact ⟨by omega, by omega⟩) (by first | exact x_rb b_x2 rfl rfl | exact ⟨by omega, by omega⟩) b_z147 (by first | exact x_rbe e_z148 g_z148 rfl rfl | exact x_rb g_z148 rfl rfl | exact ⟨by omega, by omega⟩) ⟨by omega, by omega⟩  (by omega)
      · rw [e_z143]
        show xe none 65 21 [(0, .ref 1), (1, vi x1), (2, vi x2), (3, vj x3), (5, vi x5), (6, vi x6)] [vi 0] s 0 0 _
        refine x_if_eq k65_21 (t := 46) rfl ⟨by decide, by decide⟩ (fun c150 => ?_) (fun c150 => by exfalso; omega)
        refine x_A k65_46 (fun _ => rfl) ?_
        exact x_lret k65_47 rfl ⟨hG, f, x3, rfl, b_x3⟩
theorem C_X7_pathUp_1 (s0 : xS) (hG0 : GI s0) (a : Int) (b_a : (-2147483648) ≤ a ∧ a ≤ 2147483647) (b : Int) (b_b : (-2147483648) ≤ b ∧ b ≤ 2147483647) : xe none 65 0 (lv_args 0 [.ref 1, vi a, vi b]) [] s0 0 0 (fun s' v => GI s' ∧ FL [] s0 s' ∧ ∃ z, v = some (vj z) ∧ in64 z) := by
  have f0 : FL [] s0 s0 := FL.rf
  show xe none 65 0 [(0, .ref 1), (1, vi a), (2, vi b)] [] s0 0 0 _
  refine x_lconst k65_0 (z := 0) (by decide +kernel) ?_
  refine x_lstore_n k65_1 (ls' := [(3, vj 0), (0, .ref 1), (1, vi a), (2, vi b)]) (by decide) rfl ?_
  refine x_A k65_2 (fun _ => rfl) ?_
  refine x_istore k65_3 (ls' := [(5, vi a), (3, vj 0), (0, .ref 1), (1, vi a), (2, vi b)]) (by decide) rfl ?_
  refine x_A k65_5 (fun _ => rfl) ?_
  refine x_istore k65_6 (ls' := [(6, vi 0), (5, vi a), (3, vj 0), (0, .ref 1), (1, vi a), (2, vi b)]) (by decide) rfl ?_
  refine x_ls (l := [(0, .ref 1), (1, vi a), (2, vi b), (3, vj 0), (5, vi a), (6, vi 0)]) (show ([0, 1, 2, 3, 5, 6] : List Nat).Nodup from by decide +kernel) ⟨rfl, rfl, rfl, rfl, rfl, rfl, trivial⟩ ?_
  exact L_C_X7_pathUp_1_8 s0   (((40 - 0) + 1 : Int)).toNat s0 a b 0 a 0 hG0 f0 (by first | exact x_rb b_a rfl rfl | exact ⟨by omega, by omega⟩) (by first | exact x_rb b_b rfl rfl | exact ⟨by omega, by omega⟩) ⟨by omega, by omega⟩ (by first | exact x_rb b_a rfl rfl | exact ⟨by omega, by omega⟩) ⟨by decide, by decide⟩  (by omega)
theorem C_X7_isBelow_1 (s0 : xS) (hG0 : GI s0) (a : Int) (b_a : (-2147483648) ≤ a ∧ a ≤ 2147483647) (b : Int) (b_b : (-2147483648) ≤ b ∧ b ≤ 2147483647) (d : Int) (b_d : (-2147483648) ≤ d ∧ d ≤ 2147483647) : xe none 66 0 (lv_args 0 [.ref 1, vi a, vi b, vi d]) [] s0 0 0 (fun s' v => s' = s0 ∧ ∃ z, v = some (vi z) ∧ (((b ≥ 0 ∧ b < s0 1 4) ∧ z = 1) ∨ z = 0)) := by
  have f0 : FL [] s0 s0 := FL.rf
  show xe none 66 0 [(0, .ref 1), (1, vi a), (2, vi b), (3, vi d)] [] s0 0 0 _
  refine x_A k66_0 (fun _ => rfl) ?_
  refine x_A k66_1 (fun _ => rfl) ?_
  obtain ⟨z1, e_z1⟩ : ∃ z, z = s0 1 4 := ⟨_, rfl⟩
  have g_z1 : (1 : Int) ≤ s0 1 4 ∧ s0 1 4 ≤ 40 := hG0 1 4
  refine x_callV k66_2 (y := 59) (n := 1) (w0 := 0) (w1 := 1) (as := [vi b]) (rest := []) (by decide +kernel) (q := 1) (nq := 5) (kq := 4) ⟨by decide, rfl⟩ rfl rfl rfl rfl (xe_mono (C_X7_has_1 s0 hG0 b (by first | exact x_rb b_b rfl rfl | exact ⟨by omega, by omega⟩)) ?_)
  rintro s3 v ⟨h_s3, z2, rfl, hz_z2⟩
  rw [h_s3]
  rcases hz_z2 with ⟨c_z2, e_z2⟩ | ⟨c_z2, e_z2⟩
  · rw [e_z2]
    show xe none 66 5 [(0, .ref 1), (1, vi a), (2, vi b), (3, vi d)] [vi 1] s0 0 0 _
    refine x_if_eq k66_5 (t := 27) rfl ⟨by decide, by decide⟩ (fun c4 => by exfalso; omega) (fun c4 => ?_)
    refine x_A k66_8 (fun _ => rfl) ?_
    refine x_A k66_9 (fun _ => rfl) ?_
    refine x_A k66_10 (fun _ => rfl) ?_
    refine x_callV k66_11 (y := 65) (n := 2) (w0 := 0) (w1 := 2) (as := [vi a, vi d]) (rest := []) (by decide +kernel) (q := 1) (nq := 5) (kq := 4) ⟨by decide, rfl⟩ rfl rfl rfl rfl (xe_mono (C_X7_pathUp_1 s0 hG0 a (by first | exact x_rb b_a rfl rfl | exact ⟨by omega, by omega⟩) d (by first | exact x_rb b_d rfl rfl | exact ⟨by omega, by omega⟩)) ?_)
    rintro s6 v ⟨-, t_s6, z5, rfl, b_z5⟩
    rw [t_s6.nil]
    show xe none 66 14 [(0, .ref 1), (1, vi a), (2, vi b), (3, vi d)] [vj z5] s0 0 0 _
    refine x_A k66_14 (fun _ => rfl) ?_
    refine x_lushr_any k66_15 (fun z7 b_z7 => ?_)
    refine x_lconst k66_16 (z := 1) (by decide +kernel) ?_
    refine x_land_mask k66_17 ⟨by omega, by omega⟩ (fun z8 g_z8 => ?_)
    refine x_lconst k66_18 (z := 0) (by decide +kernel) ?_
    refine x_lc_eq k66_19 k66_20 (t := 27) rfl ⟨by omega, by omega⟩ ⟨by omega, by omega⟩ (fun c9 => ?_) (fun c9 => ?_)
    · skip
      refine x_A k66_27 (fun _ => rfl) ?_
      exact x_zret k66_28 rfl ⟨by omega, by omega⟩ ⟨rfl, 0, rfl, by omega⟩
    · skip
      refine x_A k66_23 (fun _ => rfl) ?_
      refine x_goto k66_24 (t := 28) rfl ?_
      exact x_zret k66_28 rfl ⟨by omega, by omega⟩ ⟨rfl, 1, rfl, by omega⟩
  · rw [e_z2]
    show xe none 66 5 [(0, .ref 1), (1, vi a), (2, vi b), (3, vi d)] [vi 0] s0 0 0 _
    refine x_if_eq k66_5 (t := 27) rfl ⟨by decide, by decide⟩ (fun c10 => ?_) (fun c10 => by exfalso; omega)
    refine x_A k66_27 (fun _ => rfl) ?_
    exact x_zret k66_28 rfl ⟨by omega, by omega⟩ ⟨rfl, 0, rfl, by omega⟩
theorem L_C_X7_countBelow_1_5 (s0 : xS)   : ∀ (n : Nat) (s : xS) (x1 : Int) (x2 : Int) (x3 : Int) (x4 : Int) (hG : GI s) (f : FL [] s0 s) (b_x1 : (-2147483648) ≤ x1 ∧ x1 ≤ 2147483647) (b_x2 : (-2147483648) ≤ x2 ∧ x2 ≤ 2147483647) (b_x3 : 0 ≤ x3 ∧ x3 ≤ 60) (b_x4 : 0 ≤ x4 ∧ x4 ≤ 40) (r_3_4 : x3 ≤ x4 + 0)  (hm : (40 - x4) < (n : Int)), xe none 67 5 [(0, .ref 1), (1, vi x1), (2, vi x2), (3, vi x3), (4, vi x4)] [] s 0 0 (fun s' v => GI s' ∧ FL [] s0 s' ∧ ∃ z, v = some (vi z) ∧ (0 ≤ z ∧ z ≤ 40)) := by
  intro n
  induction n with
  | zero => intro s x1 x2 x3 x4 hG f b_x1 b_x2 b_x3 b_x4 r_3_4  hm; exfalso; omega
  | succ n ih =>
    intro s x1 x2 x3 x4 hG f b_x1 b_x2 b_x3 b_x4 r_3_4  hm
    refine x_A k67_5 (fun _ => rfl) ?_
    refine x_A k67_7 (fun _ => rfl) ?_
    refine x_getI k67_8 (f := 4) rfl (q := 1) (n := 5) (kd := 4) ⟨by decide, rfl⟩ (by decide) rfl ?_
    refine x_top (fun z91 e_z91 => ?_)
    have g_z91 : (1 : Int) ≤ s 1 4 ∧ s 1 4 ≤ 40 := hG 1 4
    refine x_ic_ge k67_11 (t := 34) rfl (by first | exact x_rb b_x4 rfl rfl | exact ⟨by omega, by omega⟩) (by first | exact x_rbe e_z91 g_z91 rfl rfl | exact x_rb g_z91 rfl rfl | exact ⟨by omega, by omega⟩) (fun c92 => ?_) (fun c92 => ?_)
    · skip
      refine x_A k67_34 (fun _ => rfl) ?_
      exact x_iret k67_35 rfl ⟨hG, f, x3, rfl, (by first | exact x_rb b_x3 rfl rfl | exact ⟨by omega, by omega⟩)⟩
    · skip
      refine x_A k67_14 (fun _ => rfl) ?_
      refine x_A k67_15 (fun _ => rfl) ?_
      refine x_A k67_17 (fun _ => rfl) ?_
      refine x_A k67_18 (fun _ => rfl) ?_
      refine x_callV k67_19 (y := 66) (n := 3) (w0 := 0) (w1 := 3) (as := [vi x4, vi x1, vi x2]) (rest := []) (by decide +kernel) (q := 1) (nq := 5) (kq := 4) ⟨by decide, rfl⟩ rfl rfl rfl rfl (xe_mono (C_X7_isBelow_1 s hG x4 (by first | exact x_rb b_x4 rfl rfl | exact ⟨by omega, by omega⟩) x1 (by first | exact x_rb b_x1 rfl rfl | exact ⟨by omega, by omega⟩) x2 (by first | exact x_rb b_x2 rfl rfl | exact ⟨by omega, by omega⟩)) ?_)
      rintro s94 v ⟨h_s94, z93, rfl, hz_z93⟩
      rw [h_s94]
      rcases hz_z93 with ⟨c_z93, e_z93⟩ | e_z93
      · rw [e_z93]
        show xe none 67 22 [(0, .ref 1), (1, vi x1), (2, vi x2), (3, vi x3), (4, vi x4)] [vi 1] s 0 0 _
        refine x_if_eq k67_22 (t := 28) rfl ⟨by decide, by decide⟩ (fun c95 => by exfalso; omega) (fun c95 => ?_)
        refine x_iinc k67_25 (ls' := [(3, vi (x3 + 1)), (0, .ref 1), (1, vi x1), (2, vi x2), (4, vi x4)]) rfl (by decide) rfl ?_
        refine x_iinc k67_28 (ls' := [(4, vi (x4 + 1)), (3, vi (x3 + 1)), (0, .ref 1), (1, vi x1), (2, vi x2)]) rfl (by decide) rfl ?_
        refine x_goto k67_31 (t := 5) rfl ?_
        refine x_ls (l := [(0, .ref 1), (1, vi x1), (2, vi x2), (3, vi (x3 + 1)), (4, vi (x4 + 1))]) (show ([0, 1, 2, 3, 4] : List Nat).Nodup from by decide +kernel) ⟨rfl, rfl, rfl, rfl, rfl, trivial⟩ ?_
        exact ih s x1 x2 (x3 + 1) (x4 + 1) hG f (by first | exact x_rb b_x1 rfl rfl | exact ⟨by omega, by omega⟩) (by first | exact x_rb b_x2 rfl rfl | exact ⟨by omega, by omega⟩) ⟨by omega, by omega⟩ ⟨by omega, by omega⟩ (by omega)  (by omega)
      · rw [e_z93]
        show xe none 67 22 [(0, .ref 1), (1, vi x1), (2, vi x2), (3, vi x3), (4, vi x4)] [vi 0] s 0 0 _
        refine x_if_eq k67_22 (t := 28) rfl ⟨by decide, by decide⟩ (fun c96 => ?_) (fun c96 => by exfalso; omega)
        refine x_iinc k67_28 (ls' := [(4, vi (x4 + 1)), (0, .ref 1), (1, vi x1), (2, vi x2), (3, vi x3)]) rfl (by decide) rfl ?_
        refine x_goto k67_31 (t := 5) rfl ?_
        refine x_ls (l := [(0, .ref 1), (1, vi x1), (2, vi x2), (3, vi x3), (4, vi (x4 + 1))]) (show ([0, 1, 2, 3, 4] : List Nat).Nodup from by decide +kernel) ⟨rfl, rfl, rfl, rfl, rfl, trivial⟩ ?_
        exact ih s x1 x2 x3 (x4 + 1) hG f (by first | exact x_rb b_x1 rfl rfl | exact ⟨by omega, by omega⟩) (by first | exact x_rb b_x2 rfl rfl | exact ⟨by omega, by omega⟩) (by first | exact x_rb b_x3 rfl rfl | exact ⟨by omega, by omega⟩) ⟨by omega, by omega⟩ (by omega)  (by omega)
theorem C_X7_countBelow_1 (s0 : xS) (hG0 : GI s0) (a : Int) (b_a : (-2147483648) ≤ a ∧ a ≤ 2147483647) (b : Int) (b_b : (-2147483648) ≤ b ∧ b ≤ 2147483647) : xe none 67 0 (lv_args 0 [.ref 1, vi a, vi b]) [] s0 0 0 (fun s' v => GI s' ∧ FL [] s0 s' ∧ ∃ z, v = some (vi z) ∧ (0 ≤ z ∧ z ≤ 40)) := by
  have f0 : FL [] s0 s0 := FL.rf
  show xe none 67 0 [(0, .ref 1), (1, vi a), (2, vi b)] [] s0 0 0 _
  refine x_A k67_0 (fun _ => rfl) ?_
  refine x_istore_n k67_1 (ls' := [(3, vi 0), (0, .ref 1), (1, vi a), (2, vi b)]) (by decide) rfl ?_
  refine x_A k67_2 (fun _ => rfl) ?_
  refine x_istore k67_3 (ls' := [(4, vi 0), (3, vi 0), (0, .ref 1), (1, vi a), (2, vi b)]) (by decide) rfl ?_
  refine x_ls (l := [(0, .ref 1), (1, vi a), (2, vi b), (3, vi 0), (4, vi 0)]) (show ([0, 1, 2, 3, 4] : List Nat).Nodup from by decide +kernel) ⟨rfl, rfl, rfl, rfl, rfl, trivial⟩ ?_
  exact L_C_X7_countBelow_1_5 s0   (((40 - 0) + 1 : Int)).toNat s0 a b 0 0 hG0 f0 (by first | exact x_rb b_a rfl rfl | exact ⟨by omega, by omega⟩) (by first | exact x_rb b_b rfl rfl | exact ⟨by omega, by omega⟩) ⟨by decide, by decide⟩ ⟨by decide, by decide⟩ (by omega)  (by omega)
theorem L_C_X7_countThere_1_4 (s0 : xS)   : ∀ (n : Nat) (s : xS) (x1 : Int) (x2 : Int) (x3 : Int) (hG : GI s) (f : FL [] s0 s) (b_x1 : (-2147483648) ≤ x1 ∧ x1 ≤ 2147483647) (b_x2 : 0 ≤ x2 ∧ x2 ≤ 60) (b_x3 : 0 ≤ x3 ∧ x3 ≤ 40) (r_2_3 : x2 ≤ x3 + 0)  (hm : (40 - x3) < (n : Int)), xe none 68 4 [(0, .ref 1), (1, vi x1), (2, vi x2), (3, vi x3)] [] s 0 0 (fun s' v => GI s' ∧ FL [] s0 s' ∧ ∃ z, v = some (vi z) ∧ (0 ≤ z ∧ z ≤ 40)) := by
  intro n
  induction n with
  | zero => intro s x1 x2 x3 hG f b_x1 b_x2 b_x3 r_2_3  hm; exfalso; omega
  | succ n ih =>
    intro s x1 x2 x3 hG f b_x1 b_x2 b_x3 r_2_3  hm
    refine x_A k68_4 (fun _ => rfl) ?_
    refine x_A k68_5 (fun _ => rfl) ?_
    refine x_getI k68_6 (f := 4) rfl (q := 1) (n := 5) (kd := 4) ⟨by decide, rfl⟩ (by decide) rfl ?_
    refine x_top (fun z91 e_z91 => ?_)
    have g_z91 : (1 : Int) ≤ s 1 4 ∧ s 1 4 ≤ 40 := hG 1 4
    refine x_ic_ge k68_9 (t := 30) rfl (by first | exact x_rb b_x3 rfl rfl | exact ⟨by omega, by omega⟩) (by first | exact x_rbe e_z91 g_z91 rfl rfl | exact x_rb g_z91 rfl rfl | exact ⟨by omega, by omega⟩) (fun c92 => ?_) (fun c92 => ?_)
    · skip
      refine x_A k68_30 (fun _ => rfl) ?_
      exact x_iret k68_31 rfl ⟨hG, f, x2, rfl, (by first | exact x_rb b_x2 rfl rfl | exact ⟨by omega, by omega⟩)⟩
    · skip
      refine x_A k68_12 (fun _ => rfl) ?_
      refine x_A k68_13 (fun _ => rfl) ?_
      refine x_A k68_14 (fun _ => rfl) ?_
      refine x_callV k68_15 (y := 64) (n := 2) (w0 := 0) (w1 := 2) (as := [vi x3, vi x1]) (rest := []) (by decide +kernel) (q := 1) (nq := 5) (kq := 4) ⟨by decide, rfl⟩ rfl rfl rfl rfl (xe_mono (C_X7_isThere_1 s hG x3 (by first | exact x_rb b_x3 rfl rfl | exact ⟨by omega, by omega⟩) x1 (by first | exact x_rb b_x1 rfl rfl | exact ⟨by omega, by omega⟩)) ?_)
      rintro s94 v ⟨h_s94, z93, rfl, hz_z93⟩
      rw [h_s94]
      rcases hz_z93 with ⟨c_z93, e_z93⟩ | e_z93
      · rw [e_z93]
        show xe none 68 18 [(0, .ref 1), (1, vi x1), (2, vi x2), (3, vi x3)] [vi 1] s 0 0 _
        refine x_if_eq k68_18 (t := 24) rfl ⟨by decide, by decide⟩ (fun c95 => by exfalso; omega) (fun c95 => ?_)
        refine x_iinc k68_21 (ls' := [(2, vi (x2 + 1)), (0, .ref 1), (1, vi x1), (3, vi x3)]) rfl (by decide) rfl ?_
        refine x_iinc k68_24 (ls' := [(3, vi (x3 + 1)), (2, vi (x2 + 1)), (0, .ref 1), (1, vi x1)]) rfl (by decide) rfl ?_
        refine x_goto k68_27 (t := 4) rfl ?_
        refine x_ls (l := [(0, .ref 1), (1, vi x1), (2, vi (x2 + 1)), (3, vi (x3 + 1))]) (show ([0, 1, 2, 3] : List Nat).Nodup from by decide +kernel) ⟨rfl, rfl, rfl, rfl, trivial⟩ ?_
        exact ih s x1 (x2 + 1) (x3 + 1) hG f (by first | exact x_rb b_x1 rfl rfl | exact ⟨by omega, by omega⟩) ⟨by omega, by omega⟩ ⟨by omega, by omega⟩ (by omega)  (by omega)
      · rw [e_z93]
        show xe none 68 18 [(0, .ref 1), (1, vi x1), (2, vi x2), (3, vi x3)] [vi 0] s 0 0 _
        refine x_if_eq k68_18 (t := 24) rfl ⟨by decide, by decide⟩ (fun c96 => ?_) (fun c96 => by exfalso; omega)
        refine x_iinc k68_24 (ls' := [(3, vi (x3 + 1)), (0, .ref 1), (1, vi x1), (2, vi x2)]) rfl (by decide) rfl ?_
        refine x_goto k68_27 (t := 4) rfl ?_
        refine x_ls (l := [(0, .ref 1), (1, vi x1), (2, vi x2), (3, vi (x3 + 1))]) (show ([0, 1, 2, 3] : List Nat).Nodup from by decide +kernel) ⟨rfl, rfl, rfl, rfl, trivial⟩ ?_
        exact ih s x1 x2 (x3 + 1) hG f (by first | exact x_rb b_x1 rfl rfl | exact ⟨by omega, by omega⟩) (by first | exact x_rb b_x2 rfl rfl | exact ⟨by omega, by omega⟩) ⟨by omega, by omega⟩ (by omega)  (by omega)
theorem C_X7_countThere_1 (s0 : xS) (hG0 : GI s0) (a : Int) (b_a : (-2147483648) ≤ a ∧ a ≤ 2147483647) : xe none 68 0 (lv_args 0 [.ref 1, vi a]) [] s0 0 0 (fun s' v => GI s' ∧ FL [] s0 s' ∧ ∃ z, v = some (vi z) ∧ (0 ≤ z ∧ z ≤ 40)) := by
  have f0 : FL [] s0 s0 := FL.rf
  show xe none 68 0 [(0, .ref 1), (1, vi a)] [] s0 0 0 _
  refine x_A k68_0 (fun _ => rfl) ?_
  refine x_istore_n k68_1 (ls' := [(2, vi 0), (0, .ref 1), (1, vi a)]) (by decide) rfl ?_
  refine x_A k68_2 (fun _ => rfl) ?_
  refine x_istore_n k68_3 (ls' := [(3, vi 0), (2, vi 0), (0, .ref 1), (1, vi a)]) (by decide) rfl ?_
  refine x_ls (l := [(0, .ref 1), (1, vi a), (2, vi 0), (3, vi 0)]) (show ([0, 1, 2, 3] : List Nat).Nodup from by decide +kernel) ⟨rfl, rfl, rfl, rfl, trivial⟩ ?_
  exact L_C_X7_countThere_1_4 s0   (((40 - 0) + 1 : Int)).toNat s0 a 0 0 hG0 f0 (by first | exact x_rb b_a rfl rfl | exact ⟨by omega, by omega⟩) ⟨by decide, by decide⟩ ⟨by decide, by decide⟩ (by omega)  (by omega)
theorem L_C_X7_followJoins_1_5 (s0 : xS)   : ∀ (n : Nat) (s : xS) (x1 : Int) (x2 : Int) (x3 : Int) (x4 : Int) (hG : GI s) (f : FL [] s0 s) (b_x1 : 0 ≤ x1 ∧ x1 ≤ 39) (b_x2 : (-2147483648) ≤ x2 ∧ x2 ≤ 2147483647) (b_x3 : 0 ≤ x3 ∧ x3 ≤ 39) (b_x4 : 0 ≤ x4 ∧ x4 ≤ 40)  (hm : (40 - x4) < (n : Int)), xe none 69 5 [(0, .ref 1), (1, vi x1), (2, vi x2), (3, vi x3), (4, vi x4)] [] s 0 0 (fun s' v => GI s' ∧ FL [] s0 s' ∧ ∃ z, v = some (vi z) ∧ (0 ≤ z ∧ z ≤ 39)) := by
  intro n
  induction n with
  | zero => intro s x1 x2 x3 x4 hG f b_x1 b_x2 b_x3 b_x4  hm; exfalso; omega
  | succ n ih =>
    intro s x1 x2 x3 x4 hG f b_x1 b_x2 b_x3 b_x4  hm
    refine x_A k69_5 (fun _ => rfl) ?_
    refine x_bipush k69_7 (by decide +kernel) ?_
    refine x_ic_ge k69_9 (t := 47) rfl (by first | exact x_rb b_x4 rfl rfl | exact ⟨by omega, by omega⟩) ⟨by decide, by decide⟩ (fun c155 => ?_) (fun c155 => ?_)
    · skip
      refine x_A k69_47 (fun _ => rfl) ?_
      exact x_iret k69_48 rfl ⟨hG, f, x3, rfl, (by first | exact x_rb b_x3 rfl rfl | exact ⟨by omega, by omega⟩)⟩
    · skip
      refine x_A k69_12 (fun _ => rfl) ?_
      refine x_A k69_13 (fun _ => rfl) ?_
      refine x_A k69_14 (fun _ => rfl) ?_
      obtain ⟨z156, e_z156⟩ : ∃ z, z = s 1 4 := ⟨_, rfl⟩
      have g_z156 : (1 : Int) ≤ s 1 4 ∧ s 1 4 ≤ 40 := hG 1 4
      refine x_callV k69_15 (y := 63) (n := 2) (w0 := 0) (w1 := 2) (as := [vi x3, vi x2]) (rest := []) (by decide +kernel) (q := 1) (nq := 5) (kq := 4) ⟨by decide, rfl⟩ rfl rfl rfl rfl (xe_mono (C_X7_isEnded_1 s hG x3 (by first | exact x_rb b_x3 rfl rfl | exact ⟨by omega, by omega⟩) x2 (by first | exact x_rb b_x2 rfl rfl | exact ⟨by omega, by omega⟩)) ?_)
      rintro s158 v ⟨h_s158, z157, rfl, hz_z157⟩
      rw [h_s158]
      rcases hz_z157 with ⟨c_z157, e_z157⟩ | e_z157
      · rw [e_z157]
        show xe none 69 18 [(0, .ref 1), (1, vi x1), (2, vi x2), (3, vi x3), (4, vi x4)] [vi 1] s 0 0 _
        refine x_if_eq k69_18 (t := 47) rfl ⟨by decide, by decide⟩ (fun c159 => by exfalso; omega) (fun c159 => ?_)
        refine x_A k69_21 (fun _ => rfl) ?_
        refine x_A k69_22 (fun _ => rfl) ?_
        refine x_getR k69_23 (f := 2) rfl (q := 1) (n := 5) (kd := 4) ⟨by decide, rfl⟩ (q2 := 4) (by decide) rfl ?_
        refine x_A k69_26 (fun _ => rfl) ?_
        refine x_iald k69_27 (q := 4) (n := 40) ⟨by decide, rfl⟩ (by decide) (by first | exact x_rbl b_x3 rfl rfl | exact ⟨by omega, by omega⟩) ?_
        refine x_top (fun z160 e_z160 => ?_)
        have g_z160 : (-1) ≤ s 4 x3.toNat ∧ s 4 x3.toNat ≤ 39 := hG 4 x3.toNat
        refine x_callV k69_28 (y := 59) (n := 1) (w0 := 0) (w1 := 1) (as := [vi z160]) (rest := []) (by decide +kernel) (q := 1) (nq := 5) (kq := 4) ⟨by decide, rfl⟩ rfl rfl rfl rfl (xe_mono (C_X7_has_1 s hG z160 (by first | exact x_rbe e_z160 g_z160 rfl rfl | exact x_rb g_z160 rfl rfl | exact ⟨by omega, by omega⟩)) ?_)
        rintro s162 v ⟨h_s162, z161, rfl, hz_z161⟩
        rw [h_s162]
        rcases hz_z161 with ⟨c_z161, e_z161⟩ | ⟨c_z161, e_z161⟩
        · rw [e_z161]
          show xe none 69 31 [(0, .ref 1), (1, vi x1), (2, vi x2), (3, vi x3), (4, vi x4)] [vi 1] s 0 0 _
          refine x_if_eq k69_31 (t := 47) rfl ⟨by decide, by decide⟩ (fun c163 => by exfalso; omega) (fun c163 => ?_)
          refine x_A k69_34 (fun _ => rfl) ?_
          refine x_getR k69_35 (f := 2) rfl (q := 1) (n := 5) (kd := 4) ⟨by decide, rfl⟩ (q2 := 4) (by decide) rfl ?_
          refine x_A k69_38 (fun _ => rfl) ?_
          refine x_iald k69_39 (q := 4) (n := 40) ⟨by decide, rfl⟩ (by decide) (by first | exact x_rbl b_x3 rfl rfl | exact ⟨by omega, by omega⟩) ?_
          rw [e_z160.symm]
          refine x_istore_n k69_40 (ls' := [(3, vi z160), (0, .ref 1), (1, vi x1), (2, vi x2), (4, vi x4)]) (by decide) rfl ?_
          refine x_iinc k69_41 (ls' := [(4, vi (x4 + 1)), (3, vi z160), (0, .ref 1), (1, vi x1), (2, vi x2)]) rfl (by decide) rfl ?_
          refine x_goto k69_44 (t := 5) rfl ?_
          refine x_ls (l := [(0, .ref 1), (1, vi x1), (2, vi x2), (3, vi z160), (4, vi (x4 + 1))]) (show ([0, 1, 2, 3, 4] : List Nat).Nodup from by decide +kernel) ⟨rfl, rfl, rfl, rfl, rfl, trivial⟩ ?_
          exact ih s x1 x2 z160 (x4 + 1) hG f (by first | exact x_rb b_x1 rfl rfl | exact ⟨by omega, by omega⟩) (by first | exact x_rb b_x2 rfl rfl | exact ⟨by omega, by omega⟩) (by first | exact x_rbe e_z160 g_z160 rfl rfl | exact x_rb g_z160 rfl rfl | exact ⟨by omega, by omega⟩) ⟨by omega, by omega⟩  (by omega)
        · rw [e_z161]
          show xe none 69 31 [(0, .ref 1), (1, vi x1), (2, vi x2), (3, vi x3), (4, vi x4)] [vi 0] s 0 0 _
          refine x_if_eq k69_31 (t := 47) rfl ⟨by decide, by decide⟩ (fun c164 => ?_) (fun c164 => by exfalso; omega)
          refine x_A k69_47 (fun _ => rfl) ?_
          exact x_iret k69_48 rfl ⟨hG, f, x3, rfl, (by first | exact x_rb b_x3 rfl rfl | exact ⟨by omega, by omega⟩)⟩
      · rw [e_z157]
        show xe none 69 18 [(0, .ref 1), (1, vi x1), (2, vi x2), (3, vi x3), (4, vi x4)] [vi 0] s 0 0 _
        refine x_if_eq k69_18 (t := 47) rfl ⟨by decide, by decide⟩ (fun c165 => ?_) (fun c165 => by exfalso; omega)
        refine x_A k69_47 (fun _ => rfl) ?_
        exact x_iret k69_48 rfl ⟨hG, f, x3, rfl, (by first | exact x_rb b_x3 rfl rfl | exact ⟨by omega, by omega⟩)⟩
theorem C_X7_followJoins_1 (s0 : xS) (hG0 : GI s0) (a : Int) (b_a : 0 ≤ a ∧ a ≤ 39) (b : Int) (b_b : (-2147483648) ≤ b ∧ b ≤ 2147483647) : xe none 69 0 (lv_args 0 [.ref 1, vi a, vi b]) [] s0 0 0 (fun s' v => GI s' ∧ FL [] s0 s' ∧ ∃ z, v = some (vi z) ∧ (0 ≤ z ∧ z ≤ 39)) := by
  have f0 : FL [] s0 s0 := FL.rf
  show xe none 69 0 [(0, .ref 1), (1, vi a), (2, vi b)] [] s0 0 0 _
  refine x_A k69_0 (fun _ => rfl) ?_
  refine x_istore_n k69_1 (ls' := [(3, vi a), (0, .ref 1), (1, vi a), (2, vi b)]) (by decide) rfl ?_
  refine x_A k69_2 (fun _ => rfl) ?_
  refine x_istore k69_3 (ls' := [(4, vi 0), (3, vi a), (0, .ref 1), (1, vi a), (2, vi b)]) (by decide) rfl ?_
  refine x_ls (l := [(0, .ref 1), (1, vi a), (2, vi b), (3, vi a), (4, vi 0)]) (show ([0, 1, 2, 3, 4] : List Nat).Nodup from by decide +kernel) ⟨rfl, rfl, rfl, rfl, rfl, trivial⟩ ?_
  exact L_C_X7_followJoins_1_5 s0   (((40 - 0) + 1 : Int)).toNat s0 a b a 0 hG0 f0 (by first | exact x_rb b_a rfl rfl | exact ⟨by omega, by omega⟩) (by first | exact x_rb b_b rfl rfl | exact ⟨by omega, by omega⟩) (by first | exact x_rb b_a rfl rfl | exact ⟨by omega, by omega⟩) ⟨by decide, by decide⟩  (by omega)
theorem L_C_X7_firstThere_1_5 (s0 : xS)   : ∀ (n : Nat) (s : xS) (x1 : Int) (x2 : Int) (x3 : Int) (x4 : Int) (hG : GI s) (f : FL [] s0 s) (b_x1 : (-1) ≤ x1 ∧ x1 ≤ 39) (b_x2 : (-2147483648) ≤ x2 ∧ x2 ≤ 2147483647) (b_x3 : (-1) ≤ x3 ∧ x3 ≤ 39) (b_x4 : 0 ≤ x4 ∧ x4 ≤ 40)  (hm : (40 - x4) < (n : Int)), xe none 70 5 [(0, .ref 1), (1, vi x1), (2, vi x2), (3, vi x3), (4, vi x4)] [] s 0 0 (fun s' v => GI s' ∧ FL [] s0 s' ∧ ∃ z, v = some (vi z) ∧ ((-1) ≤ z ∧ z ≤ 39)) := by
  intro n
  induction n with
  | zero => intro s x1 x2 x3 x4 hG f b_x1 b_x2 b_x3 b_x4  hm; exfalso; omega
  | succ n ih =>
    intro s x1 x2 x3 x4 hG f b_x1 b_x2 b_x3 b_x4  hm
    refine x_A k70_5 (fun _ => rfl) ?_
    refine x_bipush k70_7 (by decide +kernel) ?_
    refine x_ic_ge k70_9 (t := 42) rfl (by first | exact x_rb b_x4 rfl rfl | exact ⟨by omega, by omega⟩) ⟨by decide, by decide⟩ (fun c169 => ?_) (fun c169 => ?_)
    · skip
      refine x_A k70_42 (fun _ => rfl) ?_
      exact x_iret k70_43 rfl ⟨hG, f, x3, rfl, (by first | exact x_rb b_x3 rfl rfl | exact ⟨by omega, by omega⟩)⟩
    · skip
      refine x_A k70_12 (fun _ => rfl) ?_
      refine x_A k70_13 (fun _ => rfl) ?_
      obtain ⟨z170, e_z170⟩ : ∃ z, z = s 1 4 := ⟨_, rfl⟩
      have g_z170 : (1 : Int) ≤ s 1 4 ∧ s 1 4 ≤ 40 := hG 1 4
      refine x_callV k70_14 (y := 59) (n := 1) (w0 := 0) (w1 := 1) (as := [vi x3]) (rest := []) (by decide +kernel) (q := 1) (nq := 5) (kq := 4) ⟨by decide, rfl⟩ rfl rfl rfl rfl (xe_mono (C_X7_has_1 s hG x3 (by first | exact x_rb b_x3 rfl rfl | exact ⟨by omega, by omega⟩)) ?_)
      rintro s172 v ⟨h_s172, z171, rfl, hz_z171⟩
      rw [h_s172]
      rcases hz_z171 with ⟨c_z171, e_z171⟩ | ⟨c_z171, e_z171⟩
      · rw [e_z171]
        show xe none 70 17 [(0, .ref 1), (1, vi x1), (2, vi x2), (3, vi x3), (4, vi x4)] [vi 1] s 0 0 _
        refine x_if_eq k70_17 (t := 42) rfl ⟨by decide, by decide⟩ (fun c173 => by exfalso; omega) (fun c173 => ?_)
        refine x_A k70_20 (fun _ => rfl) ?_
        refine x_A k70_21 (fun _ => rfl) ?_
        refine x_A k70_22 (fun _ => rfl) ?_
        refine x_callV k70_23 (y := 64) (n := 2) (w0 := 0) (w1 := 2) (as := [vi x3, vi x2]) (rest := []) (by decide +kernel) (q := 1) (nq := 5) (kq := 4) ⟨by decide, rfl⟩ rfl rfl rfl rfl (xe_mono (C_X7_isThere_1 s hG x3 (by first | exact x_rb b_x3 rfl rfl | exact ⟨by omega, by omega⟩) x2 (by first | exact x_rb b_x2 rfl rfl | exact ⟨by omega, by omega⟩)) ?_)
        rintro s175 v ⟨h_s175, z174, rfl, hz_z174⟩
        rw [h_s175]
        rcases hz_z174 with ⟨c_z174, e_z174⟩ | e_z174
        · rw [e_z174]
          show xe none 70 26 [(0, .ref 1), (1, vi x1), (2, vi x2), (3, vi x3), (4, vi x4)] [vi 1] s 0 0 _
          refine x_if_ne k70_26 (t := 42) rfl ⟨by decide, by decide⟩ (fun c176 => ?_) (fun c176 => by exfalso; omega)
          refine x_A k70_42 (fun _ => rfl) ?_
          exact x_iret k70_43 rfl ⟨hG, f, x3, rfl, (by first | exact x_rb b_x3 rfl rfl | exact ⟨by omega, by omega⟩)⟩
        · rw [e_z174]
          show xe none 70 26 [(0, .ref 1), (1, vi x1), (2, vi x2), (3, vi x3), (4, vi x4)] [vi 0] s 0 0 _
          refine x_if_ne k70_26 (t := 42) rfl ⟨by decide, by decide⟩ (fun c177 => by exfalso; omega) (fun c177 => ?_)
          refine x_A k70_29 (fun _ => rfl) ?_
          refine x_A k70_30 (fun _ => rfl) ?_
          refine x_A k70_31 (fun _ => rfl) ?_
          refine x_callV k70_32 (y := 62) (n := 2) (w0 := 0) (w1 := 2) (as := [vi x3, vi x2]) (rest := []) (by decide +kernel) (q := 1) (nq := 5) (kq := 4) ⟨by decide, rfl⟩ rfl rfl rfl rfl (xe_mono (C_X7_parentIn_1 s hG x3 (by first | exact x_rb b_x3 rfl rfl | exact ⟨by omega, by omega⟩) x2 (by first | exact x_rb b_x2 rfl rfl | exact ⟨by omega, by omega⟩)) ?_)
          rintro s179 v ⟨-, t_s179, z178, rfl, g_z178⟩
          rw [t_s179.nil]
          show xe none 70 35 [(0, .ref 1), (1, vi x1), (2, vi x2), (3, vi x3), (4, vi x4)] [vi z178] s 0 0 _
          refine x_istore_n k70_35 (ls' := [(3, vi z178), (0, .ref 1), (1, vi x1), (2, vi x2), (4, vi x4)]) (by decide) rfl ?_
          refine x_iinc k70_36 (ls' := [(4, vi (x4 + 1)), (3, vi z178), (0, .ref 1), (1, vi x1), (2, vi x2)]) rfl (by decide) rfl ?_
          refine x_goto k70_39 (t := 5) rfl ?_
          refine x_ls (l := [(0, .ref 1), (1, vi x1), (2, vi x2), (3, vi z178), (4, vi (x4 + 1))]) (show ([0, 1, 2, 3, 4] : List Nat).Nodup from by decide +kernel) ⟨rfl, rfl, rfl, rfl, rfl, trivial⟩ ?_
          exact ih s x1 x2 z178 (x4 + 1) hG f (by first | exact x_rb b_x1 rfl rfl | exact ⟨by omega, by omega⟩) (by first | exact x_rb b_x2 rfl rfl | exact ⟨by omega, by omega⟩) (by first | exact x_rbe e_z178 g_z178 rfl rfl | exact x_rb g_z178 rfl rfl | exact ⟨by omega, by omega⟩) ⟨by omega, by omega⟩  (by omega)
      · rw [e_z171]
        show xe none 70 17 [(0, .ref 1), (1, vi x1), (2, vi x2), (3, vi x3), (4, vi x4)] [vi 0] s 0 0 _
        refine x_if_eq k70_17 (t := 42) rfl ⟨by decide, by decide⟩ (fun c180 => ?_) (fun c180 => by exfalso; omega)
        refine x_A k70_42 (fun _ => rfl) ?_
        exact x_iret k70_43 rfl ⟨hG, f, x3, rfl, (by first | exact x_rb b_x3 rfl rfl | exact ⟨by omega, by omega⟩)⟩
theorem C_X7_firstThere_1 (s0 : xS) (hG0 : GI s0) (a : Int) (b_a : (-1) ≤ a ∧ a ≤ 39) (b : Int) (b_b : (-2147483648) ≤ b ∧ b ≤ 2147483647) : xe none 70 0 (lv_args 0 [.ref 1, vi a, vi b]) [] s0 0 0 (fun s' v => GI s' ∧ FL [] s0 s' ∧ ∃ z, v = some (vi z) ∧ ((-1) ≤ z ∧ z ≤ 39)) := by
  have f0 : FL [] s0 s0 := FL.rf
  show xe none 70 0 [(0, .ref 1), (1, vi a), (2, vi b)] [] s0 0 0 _
  refine x_A k70_0 (fun _ => rfl) ?_
  refine x_istore_n k70_1 (ls' := [(3, vi a), (0, .ref 1), (1, vi a), (2, vi b)]) (by decide) rfl ?_
  refine x_A k70_2 (fun _ => rfl) ?_
  refine x_istore k70_3 (ls' := [(4, vi 0), (3, vi a), (0, .ref 1), (1, vi a), (2, vi b)]) (by decide) rfl ?_
  refine x_ls (l := [(0, .ref 1), (1, vi a), (2, vi b), (3, vi a), (4, vi 0)]) (show ([0, 1, 2, 3, 4] : List Nat).Nodup from by decide +kernel) ⟨rfl, rfl, rfl, rfl, rfl, trivial⟩ ?_
  exact L_C_X7_firstThere_1_5 s0   (((40 - 0) + 1 : Int)).toNat s0 a b a 0 hG0 f0 (by first | exact x_rb b_a rfl rfl | exact ⟨by omega, by omega⟩) (by first | exact x_rb b_b rfl rfl | exact ⟨by omega, by omega⟩) (by first | exact x_rb b_a rfl rfl | exact ⟨by omega, by omega⟩) ⟨by decide, by decide⟩  (by omega)
theorem L_C_X7_raised_1_6 (s0 : xS)   : ∀ (n : Nat) (s : xS) (x1 : Int) (x2 : Int) (x3 : Int) (x4 : Int) (x5 : Int) (hG : GI s) (f : FL [] s0 s) (b_x1 : (-1) ≤ x1 ∧ x1 ≤ 39) (b_x2 : 0 ≤ x2 ∧ x2 ≤ 6) (b_x3 : (-2147483648) ≤ x3 ∧ x3 ≤ 2147483647) (b_x4 : (-1) ≤ x4 ∧ x4 ≤ 39) (b_x5 : 0 ≤ x5 ∧ x5 ≤ 6) (r_5_2 : x5 ≤ x2 + 0)  (hm : (6 - x5) < (n : Int)), xe none 71 6 [(0, .ref 1), (1, vi x1), (2, vi x2), (3, vi x3), (4, vi x4), (5, vi x5)] [] s 0 0 (fun s' v => GI s' ∧ FL [] s0 s' ∧ ∃ z, v = some (vi z) ∧ ((-1) ≤ z ∧ z ≤ 39)) := by
  intro n
  induction n with
  | zero => intro s x1 x2 x3 x4 x5 hG f b_x1 b_x2 b_x3 b_x4 b_x5 r_5_2  hm; exfalso; omega
  | succ n ih =>
    intro s x1 x2 x3 x4 x5 hG f b_x1 b_x2 b_x3 b_x4 b_x5 r_5_2  hm
    refine x_A k71_6 (fun _ => rfl) ?_
    refine x_A k71_8 (fun _ => rfl) ?_
    refine x_ic_ge k71_9 (t := 32) rfl (by first | exact x_rb b_x5 rfl rfl | exact ⟨by omega, by omega⟩) (by first | exact x_rb b_x2 rfl rfl | exact ⟨by omega, by omega⟩) (fun c29 => ?_) (fun c29 => ?_)
    · skip
      refine x_A k71_32 (fun _ => rfl) ?_
      exact x_iret k71_34 rfl ⟨hG, f, x4, rfl, (by first | exact x_rb b_x4 rfl rfl | exact ⟨by omega, by omega⟩)⟩
    · skip
      refine x_A k71_12 (fun _ => rfl) ?_
      refine x_if_eq k71_14 (t := 32) rfl (by first | exact x_rb b_x4 rfl rfl | exact ⟨by omega, by omega⟩) (fun c30 => ?_) (fun c30 => ?_)
      · skip
        refine x_A k71_32 (fun _ => rfl) ?_
        exact x_iret k71_34 rfl ⟨hG, f, x4, rfl, (by first | exact x_rb b_x4 rfl rfl | exact ⟨by omega, by omega⟩)⟩
      · skip
        refine x_A k71_17 (fun _ => rfl) ?_
        refine x_A k71_18 (fun _ => rfl) ?_
        refine x_A k71_20 (fun _ => rfl) ?_
        refine x_callV k71_21 (y := 62) (n := 2) (w0 := 0) (w1 := 2) (as := [vi x4, vi x3]) (rest := []) (by decide +kernel) (q := 1) (nq := 5) (kq := 4) ⟨by decide, rfl⟩ rfl rfl rfl rfl (xe_mono (C_X7_parentIn_1 s hG x4 (by first | exact x_rb b_x4 rfl rfl | exact ⟨by omega, by omega⟩) x3 (by first | exact x_rb b_x3 rfl rfl | exact ⟨by omega, by omega⟩)) ?_)
        rintro s32 v ⟨-, t_s32, z31, rfl, g_z31⟩
        rw [t_s32.nil]
        show xe none 71 24 [(0, .ref 1), (1, vi x1), (2, vi x2), (3, vi x3), (4, vi x4), (5, vi x5)] [vi z31] s 0 0 _
        refine x_istore k71_24 (ls' := [(4, vi z31), (0, .ref 1), (1, vi x1), (2, vi x2), (3, vi x3), (5, vi x5)]) (by decide) rfl ?_
        refine x_iinc k71_26 (ls' := [(5, vi (x5 + 1)), (4, vi z31), (0, .ref 1), (1, vi x1), (2, vi x2), (3, vi x3)]) rfl (by decide) rfl ?_
        refine x_goto k71_29 (t := 6) rfl ?_
        refine x_ls (l := [(0, .ref 1), (1, vi x1), (2, vi x2), (3, vi x3), (4, vi z31), (5, vi (x5 + 1))]) (show ([0, 1, 2, 3, 4, 5] : List Nat).Nodup from by decide +kernel) ⟨rfl, rfl, rfl, rfl, rfl, rfl, trivial⟩ ?_
        exact ih s x1 x2 x3 z31 (x5 + 1) hG f (by first | exact x_rb b_x1 rfl rfl | exact ⟨by omega, by omega⟩) (by first | exact x_rb b_x2 rfl rfl | exact ⟨by omega, by omega⟩) (by first | exact x_rb b_x3 rfl rfl | exact ⟨by omega, by omega⟩) (by first | exact x_rbe e_z31 g_z31 rfl rfl | exact x_rb g_z31 rfl rfl | exact ⟨by omega, by omega⟩) ⟨by omega, by omega⟩ (by omega)  (by omega)
theorem C_X7_raised_1 (s0 : xS) (hG0 : GI s0) (a : Int) (b_a : (-1) ≤ a ∧ a ≤ 39) (b : Int) (b_b : 0 ≤ b ∧ b ≤ 6) (d : Int) (b_d : (-2147483648) ≤ d ∧ d ≤ 2147483647) : xe none 71 0 (lv_args 0 [.ref 1, vi a, vi b, vi d]) [] s0 0 0 (fun s' v => GI s' ∧ FL [] s0 s' ∧ ∃ z, v = some (vi z) ∧ ((-1) ≤ z ∧ z ≤ 39)) := by
  have f0 : FL [] s0 s0 := FL.rf
  show xe none 71 0 [(0, .ref 1), (1, vi a), (2, vi b), (3, vi d)] [] s0 0 0 _
  refine x_A k71_0 (fun _ => rfl) ?_
  refine x_istore k71_1 (ls' := [(4, vi a), (0, .ref 1), (1, vi a), (2, vi b), (3, vi d)]) (by decide) rfl ?_
  refine x_A k71_3 (fun _ => rfl) ?_
  refine x_istore k71_4 (ls' := [(5, vi 0), (4, vi a), (0, .ref 1), (1, vi a), (2, vi b), (3, vi d)]) (by decide) rfl ?_
  refine x_ls (l := [(0, .ref 1), (1, vi a), (2, vi b), (3, vi d), (4, vi a), (5, vi 0)]) (show ([0, 1, 2, 3, 4, 5] : List Nat).Nodup from by decide +kernel) ⟨rfl, rfl, rfl, rfl, rfl, rfl, trivial⟩ ?_
  exact L_C_X7_raised_1_6 s0   (((6 - 0) + 1 : Int)).toNat s0 a b d a 0 hG0 f0 (by first | exact x_rb b_a rfl rfl | exact ⟨by omega, by omega⟩) (by first | exact x_rb b_b rfl rfl | exact ⟨by omega, by omega⟩) (by first | exact x_rb b_d rfl rfl | exact ⟨by omega, by omega⟩) (by first | exact x_rb b_a rfl rfl | exact ⟨by omega, by omega⟩) ⟨by decide, by decide⟩ (by omega)  (by omega)
theorem C_X3_all_46 (s0 : xS) (hG0 : GI s0)  : xe none 31 0 (lv_args 0 [.ref 46]) [] s0 0 0 (fun s' v => GI s' ∧ FL [] s0 s' ∧ ∃ z, v = some (vj z) ∧ in64 z) := by
  have f0 : FL [] s0 s0 := FL.rf
  show xe none 31 0 [(0, .ref 46)] [] s0 0 0 _
  refine x_lconst k31_0 (z := 1) (by decide +kernel) ?_
  refine x_A k31_1 (fun _ => rfl) ?_
  refine x_getI k31_2 (f := 3) rfl (q := 46) (n := 4) (kd := 5) ⟨by decide, rfl⟩ (by decide) rfl ?_
  refine x_top (fun z1 e_z1 => ?_)
  have g_z1 : (0 : Int) ≤ s0 46 3 ∧ s0 46 3 ≤ 40 := hG0 46 3
  refine x_lshl_any k31_5 (fun z2 b_z2 => ?_)
  refine x_lconst k31_6 (z := 1) (by decide +kernel) ?_
  refine x_lsub_any k31_7 (fun z3 b_z3 => ?_)
  exact x_lret k31_8 rfl ⟨hG0, f0, z3, rfl, b_z3⟩
theorem L_C_X3_ofYears_46_5 (s0 : xS)   : ∀ (n : Nat) (s : xS) (x1 : Int) (x2 : Int) (x3 : Int) (x5 : Int) (hG : GI s) (f : FL [] s0 s) (b_x1 : (-2147483648) ≤ x1 ∧ x1 ≤ 2147483647) (b_x2 : (-2147483648) ≤ x2 ∧ x2 ≤ 2147483647) (b_x3 : in64 x3) (b_x5 : 0 ≤ x5 ∧ x5 ≤ 40)  (hm : (40 - x5) < (n : Int)), xe none 32 5 [(0, .ref 46), (1, vi x1), (2, vi x2), (3, vj x3), (5, vi x5)] [] s 0 0 (fun s' v => GI s' ∧ FL [] s0 s' ∧ ∃ z, v = some (vj z) ∧ in64 z) := by
  intro n
  induction n with
  | zero => intro s x1 x2 x3 x5 hG f b_x1 b_x2 b_x3 b_x5  hm; exfalso; omega
  | succ n ih =>
    intro s x1 x2 x3 x5 hG f b_x1 b_x2 b_x3 b_x5  hm
    refine x_A k32_5 (fun _ => rfl) ?_
    refine x_A k32_7 (fun _ => rfl) ?_
    refine x_getI k32_8 (f := 3) rfl (q := 46) (n := 4) (kd := 5) ⟨by decide, rfl⟩ (by decide) rfl ?_
    refine x_top (fun z127 e_z127 => ?_)
    have g_z127 : (0 : Int) ≤ s 46 3 ∧ s 46 3 ≤ 40 := hG 46 3
    refine x_ic_ge k32_11 (t := 42) rfl (by first | exact x_rb b_x5 rfl rfl | exact ⟨by omega, by omega⟩) (by first | exact x_rbe e_z127 g_z127 rfl rfl | exact x_rb g_z127 rfl rfl | exact ⟨by omega, by omega⟩) (fun c128 => ?_) (fun c128 => ?_)
    · skip
      refine x_A k32_42 (fun _ => rfl) ?_
      exact x_lret k32_43 rfl ⟨hG, f, x3, rfl, b_x3⟩
    · skip
      refine x_A k32_14 (fun _ => rfl) ?_
      refine x_getR k32_15 (f := 0) rfl (q := 46) (n := 4) (kd := 5) ⟨by decide, rfl⟩ (q2 := 47) (by decide) rfl ?_
      refine x_A k32_18 (fun _ => rfl) ?_
      refine x_iald k32_20 (q := 47) (n := 40) ⟨by decide, rfl⟩ (by decide) (by first | exact x_rbl b_x5 rfl rfl | exact ⟨by omega, by omega⟩) ?_
      refine x_top (fun z129 e_z129 => ?_)
      have g_z129 : (0 : Int) ≤ s 47 x5.toNat ∧ s 47 x5.toNat ≤ 999 := hG 47 x5.toNat
      refine x_A k32_21 (fun _ => rfl) ?_
      refine x_A k32_22 (fun _ => rfl) ?_
      refine x_callS k32_23 (y := 121) (n := 3) (w0 := 0) (w1 := 3) (as := [vi z129, vi x1, vi x2]) (rest := []) (by decide +kernel) rfl rfl rfl rfl (xe_mono (C_X10_isWithin s hG z129 (by first | exact x_rbe e_z129 g_z129 rfl rfl | exact x_rb g_z129 rfl rfl | exact ⟨by omega, by omega⟩) x1 (by first | exact x_rb b_x1 rfl rfl | exact ⟨by omega, by omega⟩) x2 (by first | exact x_rb b_x2 rfl rfl | exact ⟨by omega, by omega⟩)) ?_)
      rintro s131 v ⟨h_s131, z130, rfl, hz_z130⟩
      rw [h_s131]
      rcases hz_z130 with ⟨c_z130, e_z130⟩ | ⟨c_z130, e_z130⟩
      · rw [e_z130]
        show xe none 32 26 [(0, .ref 46), (1, vi x1), (2, vi x2), (3, vj x3), (5, vi x5)] [vi 1] s 0 0 _
        refine x_if_eq k32_26 (t := 36) rfl ⟨by decide, by decide⟩ (fun c132 => by exfalso; omega) (fun c132 => ?_)
        refine x_A k32_29 (fun _ => rfl) ?_
        refine x_lconst k32_30 (z := 1) (by decide +kernel) ?_
        refine x_A k32_31 (fun _ => rfl) ?_
        refine x_lshl_any k32_33 (fun z133 b_z133 => ?_)
        refine x_lor_any k32_34 (fun z134 b_z134 => ?_)
        refine x_lstore_n k32_35 (ls' := [(3, vj z134), (0, .ref 46), (1, vi x1), (2, vi x2), (5, vi x5)]) (by decide) rfl ?_
        refine x_iinc k32_36 (ls' := [(5, vi (x5 + 1)), (3, vj z134), (0, .ref 46), (1, vi x1), (2, vi x2)]) rfl (by decide) rfl ?_
        refine x_goto k32_39 (t := 5) rfl ?_
        refine x_ls (l := [(0, .ref 46), (1, vi x1), (2, vi x2), (3, vj z134), (5, vi (x5 + 1))]) (show ([0, 1, 2, 3, 5] : List Nat).Nodup from by decide +kernel) ⟨rfl, rfl, rfl, rfl, rfl, trivial⟩ ?_
        exact ih s x1 x2 z134 (x5 + 1) hG f (by first | exact x_rb b_x1 rfl rfl | exact ⟨by omega, by omega⟩) (by first | exact x_rb b_x2 rfl rfl | exact ⟨by omega, by omega⟩) b_z134 ⟨by omega, by omega⟩  (by omega)
      · rw [e_z130]
        show xe none 32 26 [(0, .ref 46), (1, vi x1), (2, vi x2), (3, vj x3), (5, vi x5)] [vi 0] s 0 0 _
        refine x_if_eq k32_26 (t := 36) rfl ⟨by decide, by decide⟩ (fun c135 => ?_) (fun c135 => by exfalso; omega)
        refine x_iinc k32_36 (ls' := [(5, vi (x5 + 1)), (0, .ref 46), (1, vi x1), (2, vi x2), (3, vj x3)]) rfl (by decide) rfl ?_
        refine x_goto k32_39 (t := 5) rfl ?_
        refine x_ls (l := [(0, .ref 46), (1, vi x1), (2, vi x2), (3, vj x3), (5, vi (x5 + 1))]) (show ([0, 1, 2, 3, 5] : List Nat).Nodup from by decide +kernel) ⟨rfl, rfl, rfl, rfl, rfl, trivial⟩ ?_
        exact ih s x1 x2 x3 (x5 + 1) hG f (by first | exact x_rb b_x1 rfl rfl | exact ⟨by omega, by omega⟩) (by first | exact x_rb b_x2 rfl rfl | exact ⟨by omega, by omega⟩) b_x3 ⟨by omega, by omega⟩  (by omega)
theorem C_X3_ofYears_46 (s0 : xS) (hG0 : GI s0) (a : Int) (b_a : (-2147483648) ≤ a ∧ a ≤ 2147483647) (b : Int) (b_b : (-2147483648) ≤ b ∧ b ≤ 2147483647) : xe none 32 0 (lv_args 0 [.ref 46, vi a, vi b]) [] s0 0 0 (fun s' v => GI s' ∧ FL [] s0 s' ∧ ∃ z, v = some (vj z) ∧ in64 z) := by
  have f0 : FL [] s0 s0 := FL.rf
  show xe none 32 0 [(0, .ref 46), (1, vi a), (2, vi b)] [] s0 0 0 _
  refine x_lconst k32_0 (z := 0) (by decide +kernel) ?_
  refine x_lstore_n k32_1 (ls' := [(3, vj 0), (0, .ref 46), (1, vi a), (2, vi b)]) (by decide) rfl ?_
  refine x_A k32_2 (fun _ => rfl) ?_
  refine x_istore k32_3 (ls' := [(5, vi 0), (3, vj 0), (0, .ref 46), (1, vi a), (2, vi b)]) (by decide) rfl ?_
  refine x_ls (l := [(0, .ref 46), (1, vi a), (2, vi b), (3, vj 0), (5, vi 0)]) (show ([0, 1, 2, 3, 5] : List Nat).Nodup from by decide +kernel) ⟨rfl, rfl, rfl, rfl, rfl, trivial⟩ ?_
  exact L_C_X3_ofYears_46_5 s0   (((40 - 0) + 1 : Int)).toNat s0 a b 0 0 hG0 f0 (by first | exact x_rb b_a rfl rfl | exact ⟨by omega, by omega⟩) (by first | exact x_rb b_b rfl rfl | exact ⟨by omega, by omega⟩) ⟨by omega, by omega⟩ ⟨by decide, by decide⟩  (by omega)
theorem L_C_X3_atPlace_46_5 (s0 : xS)   : ∀ (n : Nat) (s : xS) (x1 : Int) (x2 : Int) (x4 : Int) (hG : GI s) (f : FL [] s0 s) (b_x1 : (-2147483648) ≤ x1 ∧ x1 ≤ 2147483647) (b_x2 : in64 x2) (b_x4 : 0 ≤ x4 ∧ x4 ≤ 40)  (hm : (40 - x4) < (n : Int)), xe none 33 5 [(0, .ref 46), (1, vi x1), (2, vj x2), (4, vi x4)] [] s 0 0 (fun s' v => GI s' ∧ FL [] s0 s' ∧ ∃ z, v = some (vj z) ∧ in64 z) := by
  intro n
  induction n with
  | zero => intro s x1 x2 x4 hG f b_x1 b_x2 b_x4  hm; exfalso; omega
  | succ n ih =>
    intro s x1 x2 x4 hG f b_x1 b_x2 b_x4  hm
    refine x_A k33_5 (fun _ => rfl) ?_
    refine x_A k33_7 (fun _ => rfl) ?_
    refine x_getI k33_8 (f := 3) rfl (q := 46) (n := 4) (kd := 5) ⟨by decide, rfl⟩ (by decide) rfl ?_
    refine x_top (fun z85 e_z85 => ?_)
    have g_z85 : (0 : Int) ≤ s 46 3 ∧ s 46 3 ≤ 40 := hG 46 3
    refine x_ic_ge k33_11 (t := 38) rfl (by first | exact x_rb b_x4 rfl rfl | exact ⟨by omega, by omega⟩) (by first | exact x_rbe e_z85 g_z85 rfl rfl | exact x_rb g_z85 rfl rfl | exact ⟨by omega, by omega⟩) (fun c86 => ?_) (fun c86 => ?_)
    · skip
      refine x_A k33_38 (fun _ => rfl) ?_
      exact x_lret k33_39 rfl ⟨hG, f, x2, rfl, b_x2⟩
    · skip
      refine x_A k33_14 (fun _ => rfl) ?_
      refine x_getR k33_15 (f := 1) rfl (q := 46) (n := 4) (kd := 5) ⟨by decide, rfl⟩ (q2 := 48) (by decide) rfl ?_
      refine x_A k33_18 (fun _ => rfl) ?_
      refine x_iald k33_20 (q := 48) (n := 40) ⟨by decide, rfl⟩ (by decide) (by first | exact x_rbl b_x4 rfl rfl | exact ⟨by omega, by omega⟩) ?_
      refine x_top (fun z87 e_z87 => ?_)
      have g_z87 : (0 : Int) ≤ s 48 x4.toNat ∧ s 48 x4.toNat ≤ 9 := hG 48 x4.toNat
      refine x_A k33_21 (fun _ => rfl) ?_
      refine x_ic_ne k33_22 (t := 32) rfl (by first | exact x_rbe e_z87 g_z87 rfl rfl | exact x_rb g_z87 rfl rfl | exact ⟨by omega, by omega⟩) (by first | exact x_rb b_x1 rfl rfl | exact ⟨by omega, by omega⟩) (fun c88 => ?_) (fun c88 => ?_)
      · skip
        refine x_iinc k33_32 (ls' := [(4, vi (x4 + 1)), (0, .ref 46), (1, vi x1), (2, vj x2)]) rfl (by decide) rfl ?_
        refine x_goto k33_35 (t := 5) rfl ?_
        refine x_ls (l := [(0, .ref 46), (1, vi x1), (2, vj x2), (4, vi (x4 + 1))]) (show ([0, 1, 2, 4] : List Nat).Nodup from by decide +kernel) ⟨rfl, rfl, rfl, rfl, trivial⟩ ?_
        exact ih s x1 x2 (x4 + 1) hG f (by first | exact x_rb b_x1 rfl rfl | exact ⟨by omega, by omega⟩) b_x2 ⟨by omega, by omega⟩  (by omega)
      · skip
        refine x_A k33_25 (fun _ => rfl) ?_
        refine x_lconst k33_26 (z := 1) (by decide +kernel) ?_
        refine x_A k33_27 (fun _ => rfl) ?_
        refine x_lshl_any k33_29 (fun z89 b_z89 => ?_)
        refine x_lor_any k33_30 (fun z90 b_z90 => ?_)
        refine x_lstore_n k33_31 (ls' := [(2, vj z90), (0, .ref 46), (1, vi x1), (4, vi x4)]) (by decide) rfl ?_
        refine x_iinc k33_32 (ls' := [(4, vi (x4 + 1)), (2, vj z90), (0, .ref 46), (1, vi x1)]) rfl (by decide) rfl ?_
        refine x_goto k33_35 (t := 5) rfl ?_
        refine x_ls (l := [(0, .ref 46), (1, vi x1), (2, vj z90), (4, vi (x4 + 1))]) (show ([0, 1, 2, 4] : List Nat).Nodup from by decide +kernel) ⟨rfl, rfl, rfl, rfl, trivial⟩ ?_
        exact ih s x1 z90 (x4 + 1) hG f (by first | exact x_rb b_x1 rfl rfl | exact ⟨by omega, by omega⟩) b_z90 ⟨by omega, by omega⟩  (by omega)
theorem C_X3_atPlace_46 (s0 : xS) (hG0 : GI s0) (a : Int) (b_a : (-2147483648) ≤ a ∧ a ≤ 2147483647) : xe none 33 0 (lv_args 0 [.ref 46, vi a]) [] s0 0 0 (fun s' v => GI s' ∧ FL [] s0 s' ∧ ∃ z, v = some (vj z) ∧ in64 z) := by
  have f0 : FL [] s0 s0 := FL.rf
  show xe none 33 0 [(0, .ref 46), (1, vi a)] [] s0 0 0 _
  refine x_lconst k33_0 (z := 0) (by decide +kernel) ?_
  refine x_lstore_n k33_1 (ls' := [(2, vj 0), (0, .ref 46), (1, vi a)]) (by decide) rfl ?_
  refine x_A k33_2 (fun _ => rfl) ?_
  refine x_istore k33_3 (ls' := [(4, vi 0), (2, vj 0), (0, .ref 46), (1, vi a)]) (by decide) rfl ?_
  refine x_ls (l := [(0, .ref 46), (1, vi a), (2, vj 0), (4, vi 0)]) (show ([0, 1, 2, 4] : List Nat).Nodup from by decide +kernel) ⟨rfl, rfl, rfl, rfl, trivial⟩ ?_
  exact L_C_X3_atPlace_46_5 s0   (((40 - 0) + 1 : Int)).toNat s0 a 0 0 hG0 f0 (by first | exact x_rb b_a rfl rfl | exact ⟨by omega, by omega⟩) ⟨by omega, by omega⟩ ⟨by decide, by decide⟩  (by omega)
theorem L_C_X2_doubters_50_15 (s0 : xS)   : ∀ (n : Nat) (s : xS) (x1 : Int) (x2 : Int) (x3 : Int) (x4 : Int) (hG : GI s) (f : FL [] s0 s) (b_x1 : 0 ≤ x1 ∧ x1 ≤ 119) (b_x2 : (-2147483648) ≤ x2 ∧ x2 ≤ 2147483647) (b_x3 : 0 ≤ x3 ∧ x3 ≤ 9) (b_x4 : 0 ≤ x4 ∧ x4 ≤ 8) (r_3_4 : x3 ≤ x4 + 0)  (hm : (8 - x4) < (n : Int)), xe none 26 15 [(0, .ref 50), (1, vi x1), (2, vi x2), (3, vi x3), (4, vi x4)] [] s 0 0 (fun s' v => GI s' ∧ FL [] s0 s' ∧ ∃ z, v = some (vi z) ∧ (0 ≤ z ∧ z ≤ 8)) := by
  intro n
  induction n with
  | zero => intro s x1 x2 x3 x4 hG f b_x1 b_x2 b_x3 b_x4 r_3_4  hm; exfalso; omega
  | succ n ih =>
    intro s x1 x2 x3 x4 hG f b_x1 b_x2 b_x3 b_x4 r_3_4  hm
    refine x_A k26_15 (fun _ => rfl) ?_
    refine x_bipush k26_17 (by decide +kernel) ?_
    refine x_ic_ge k26_19 (t := 57) rfl (by first | exact x_rb b_x4 rfl rfl | exact ⟨by omega, by omega⟩) ⟨by decide, by decide⟩ (fun c86 => ?_) (fun c86 => ?_)
    · skip
      refine x_A k26_57 (fun _ => rfl) ?_
      exact x_iret k26_58 rfl ⟨hG, f, x3, rfl, (by first | exact x_rb b_x3 rfl rfl | exact ⟨by omega, by omega⟩)⟩
    · skip
      refine x_A k26_22 (fun _ => rfl) ?_
      refine x_getR k26_23 (f := 5) rfl (q := 50) (n := 7) (kd := 6) ⟨by decide, rfl⟩ (q2 := 56) (by decide) rfl ?_
      refine x_A k26_26 (fun _ => rfl) ?_
      refine x_aald k26_27 (q := 56) (t := 23) (n := 120) ⟨by decide, rfl⟩ (by decide) (by decide) ⟨by omega, by omega⟩ ?_
      refine x_A k26_28 (fun _ => rfl) ?_
      refine x_iald k26_30 (q := (56 + 1 + x1.toNat)) (n := 8) (xg_57 (by omega) (by omega)) (by decide) (by first | exact x_rbl b_x4 rfl rfl | exact ⟨by omega, by omega⟩) ?_
      refine x_top (fun z87 e_z87 => ?_)
      have r_z87 := hG (56 + 1 + x1.toNat) x4.toNat
      rw [(gr_57 x4.toNat (show 57 ≤ (56 + 1 + x1.toNat) by omega) (by omega)).1, (gr_57 x4.toNat (show 57 ≤ (56 + 1 + x1.toNat) by omega) (by omega)).2.1, ← e_z87] at r_z87
      refine x_A k26_31 (fun _ => rfl) ?_
      refine x_ic_eq k26_32 (t := 51) rfl (by first | exact x_rbe e_z87 g_z87 rfl rfl | exact x_rb g_z87 rfl rfl | exact ⟨by omega, by omega⟩) ⟨by decide, by decide⟩ (fun c88 => ?_) (fun c88 => ?_)
      · skip
        refine x_iinc k26_51 (ls' := [(4, vi (x4 + 1)), (0, .ref 50), (1, vi x1), (2, vi x2), (3, vi x3)]) rfl (by decide) rfl ?_
        refine x_goto k26_54 (t := 15) rfl ?_
        refine x_ls (l := [(0, .ref 50), (1, vi x1), (2, vi x2), (3, vi x3), (4, vi (x4 + 1))]) (show ([0, 1, 2, 3, 4] : List Nat).Nodup from by decide +kernel) ⟨rfl, rfl, rfl, rfl, rfl, trivial⟩ ?_
        exact ih s x1 x2 x3 (x4 + 1) hG f (by first | exact x_rb b_x1 rfl rfl | exact ⟨by omega, by omega⟩) (by first | exact x_rb b_x2 rfl rfl | exact ⟨by omega, by omega⟩) (by first | exact x_rb b_x3 rfl rfl | exact ⟨by omega, by omega⟩) ⟨by omega, by omega⟩ (by omega)  (by omega)
      · skip
        refine x_A k26_35 (fun _ => rfl) ?_
        refine x_getR k26_36 (f := 5) rfl (q := 50) (n := 7) (kd := 6) ⟨by decide, rfl⟩ (q2 := 56) (by decide) rfl ?_
        refine x_A k26_39 (fun _ => rfl) ?_
        refine x_aald k26_40 (q := 56) (t := 23) (n := 120) ⟨by decide, rfl⟩ (by decide) (by decide) ⟨by omega, by omega⟩ ?_
        refine x_A k26_41 (fun _ => rfl) ?_
        refine x_iald k26_43 (q := (56 + 1 + x1.toNat)) (n := 8) (xg_57 (by omega) (by omega)) (by decide) (by first | exact x_rbl b_x4 rfl rfl | exact ⟨by omega, by omega⟩) ?_
        rw [e_z87.symm]
        refine x_A k26_44 (fun _ => rfl) ?_
        refine x_ic_gt k26_45 (t := 51) rfl (by first | exact x_rbe e_z87 g_z87 rfl rfl | exact x_rb g_z87 rfl rfl | exact ⟨by omega, by omega⟩) (by first | exact x_rb b_x2 rfl rfl | exact ⟨by omega, by omega⟩) (fun c89 => ?_) (fun c89 => ?_)
        · skip
          refine x_iinc k26_51 (ls' := [(4, vi (x4 + 1)), (0, .ref 50), (1, vi x1), (2, vi x2), (3, vi x3)]) rfl (by decide) rfl ?_
          refine x_goto k26_54 (t := 15) rfl ?_
          refine x_ls (l := [(0, .ref 50), (1, vi x1), (2, vi x2), (3, vi x3), (4, vi (x4 + 1))]) (show ([0, 1, 2, 3, 4] : List Nat).Nodup from by decide +kernel) ⟨rfl, rfl, rfl, rfl, rfl, trivial⟩ ?_
          exact ih s x1 x2 x3 (x4 + 1) hG f (by first | exact x_rb b_x1 rfl rfl | exact ⟨by omega, by omega⟩) (by first | exact x_rb b_x2 rfl rfl | exact ⟨by omega, by omega⟩) (by first | exact x_rb b_x3 rfl rfl | exact ⟨by omega, by omega⟩) ⟨by omega, by omega⟩ (by omega)  (by omega)
        · skip
          refine x_iinc k26_48 (ls' := [(3, vi (x3 + 1)), (0, .ref 50), (1, vi x1), (2, vi x2), (4, vi x4)]) rfl (by decide) rfl ?_
          refine x_iinc k26_51 (ls' := [(4, vi (x4 + 1)), (3, vi (x3 + 1)), (0, .ref 50), (1, vi x1), (2, vi x2)]) rfl (by decide) rfl ?_
          refine x_goto k26_54 (t := 15) rfl ?_
          refine x_ls (l := [(0, .ref 50), (1, vi x1), (2, vi x2), (3, vi (x3 + 1)), (4, vi (x4 + 1))]) (show ([0, 1, 2, 3, 4] : List Nat).Nodup from by decide +kernel) ⟨rfl, rfl, rfl, rfl, rfl, trivial⟩ ?_
          exact ih s x1 x2 (x3 + 1) (x4 + 1) hG f (by first | exact x_rb b_x1 rfl rfl | exact ⟨by omega, by omega⟩) (by first | exact x_rb b_x2 rfl rfl | exact ⟨by omega, by omega⟩) ⟨by omega, by omega⟩ ⟨by omega, by omega⟩ (by omega)  (by omega)
theorem C_X2_doubters_50 (s0 : xS) (hG0 : GI s0) (a : Int) (b_a : (-2147483648) ≤ a ∧ a ≤ 2147483647) (b : Int) (b_b : (-2147483648) ≤ b ∧ b ≤ 2147483647) : xe none 26 0 (lv_args 0 [.ref 50, vi a, vi b]) [] s0 0 0 (fun s' v => GI s' ∧ FL [] s0 s' ∧ ∃ z, v = some (vi z) ∧ (0 ≤ z ∧ z ≤ 8)) := by
  have f0 : FL [] s0 s0 := FL.rf
  show xe none 26 0 [(0, .ref 50), (1, vi a), (2, vi b)] [] s0 0 0 _
  refine x_A k26_0 (fun _ => rfl) ?_
  refine x_A k26_1 (fun _ => rfl) ?_
  obtain ⟨z90, e_z90⟩ : ∃ z, z = s0 50 6 := ⟨_, rfl⟩
  have g_z90 : (0 : Int) ≤ s0 50 6 ∧ s0 50 6 ≤ 120 := hG0 50 6
  refine x_callV k26_2 (y := 24) (n := 1) (w0 := 0) (w1 := 1) (as := [vi a]) (rest := []) (by decide +kernel) (q := 50) (nq := 7) (kq := 6) ⟨by decide, rfl⟩ rfl rfl rfl rfl (xe_mono (C_X2_has_50 s0 hG0 a (by first | exact x_rb b_a rfl rfl | exact ⟨by omega, by omega⟩)) ?_)
  rintro s92 v ⟨h_s92, z91, rfl, hz_z91⟩
  rw [h_s92]
  rcases hz_z91 with ⟨c_z91, e_z91⟩ | ⟨c_z91, e_z91⟩
  · rw [e_z91]
    show xe none 26 5 [(0, .ref 50), (1, vi a), (2, vi b)] [vi 1] s0 0 0 _
    refine x_if_ne k26_5 (t := 10) rfl ⟨by decide, by decide⟩ (fun c93 => ?_) (fun c93 => by exfalso; omega)
    refine x_A k26_10 (fun _ => rfl) ?_
    refine x_istore_n k26_11 (ls' := [(3, vi 0), (0, .ref 50), (1, vi a), (2, vi b)]) (by decide) rfl ?_
    refine x_A k26_12 (fun _ => rfl) ?_
    refine x_istore k26_13 (ls' := [(4, vi 0), (3, vi 0), (0, .ref 50), (1, vi a), (2, vi b)]) (by decide) rfl ?_
    refine x_ls (l := [(0, .ref 50), (1, vi a), (2, vi b), (3, vi 0), (4, vi 0)]) (show ([0, 1, 2, 3, 4] : List Nat).Nodup from by decide +kernel) ⟨rfl, rfl, rfl, rfl, rfl, trivial⟩ ?_
    exact L_C_X2_doubters_50_15 s0   (((8 - 0) + 1 : Int)).toNat s0 a b 0 0 hG0 f0 (by first | exact x_rb b_a rfl rfl | exact ⟨by omega, by omega⟩) (by first | exact x_rb b_b rfl rfl | exact ⟨by omega, by omega⟩) ⟨by decide, by decide⟩ ⟨by decide, by decide⟩ (by omega)  (by omega)
  · rw [e_z91]
    show xe none 26 5 [(0, .ref 50), (1, vi a), (2, vi b)] [vi 0] s0 0 0 _
    refine x_if_ne k26_5 (t := 10) rfl ⟨by decide, by decide⟩ (fun c94 => by exfalso; omega) (fun c94 => ?_)
    refine x_A k26_8 (fun _ => rfl) ?_
    exact x_iret k26_9 rfl ⟨hG0, f0, 0, rfl, ⟨by decide, by decide⟩⟩
theorem L_C_X2_picturesOf_50_5 (s0 : xS)   : ∀ (n : Nat) (s : xS) (x1 : Int) (x2 : Int) (x3 : Int) (x5 : Int) (hG : GI s) (f : FL [] s0 s) (b_x1 : (-2147483648) ≤ x1 ∧ x1 ≤ 2147483647) (b_x2 : (-2147483648) ≤ x2 ∧ x2 ≤ 2147483647) (b_x3 : in64 x3) (b_x5 : 0 ≤ x5 ∧ x5 ≤ 120)  (hm : (120 - x5) < (n : Int)), xe none 27 5 [(0, .ref 50), (1, vi x1), (2, vi x2), (3, vj x3), (5, vi x5)] [] s 0 0 (fun s' v => GI s' ∧ FL [] s0 s' ∧ ∃ z, v = some (vj z) ∧ in64 z) := by
  intro n
  induction n with
  | zero => intro s x1 x2 x3 x5 hG f b_x1 b_x2 b_x3 b_x5  hm; exfalso; omega
  | succ n ih =>
    intro s x1 x2 x3 x5 hG f b_x1 b_x2 b_x3 b_x5  hm
    refine x_A k27_5 (fun _ => rfl) ?_
    refine x_A k27_7 (fun _ => rfl) ?_
    refine x_getI k27_8 (f := 6) rfl (q := 50) (n := 7) (kd := 6) ⟨by decide, rfl⟩ (by decide) rfl ?_
    refine x_top (fun z181 e_z181 => ?_)
    have g_z181 : (0 : Int) ≤ s 50 6 ∧ s 50 6 ≤ 120 := hG 50 6
    refine x_ic_ge k27_11 (t := 54) rfl (by first | exact x_rb b_x5 rfl rfl | exact ⟨by omega, by omega⟩) (by first | exact x_rbe e_z181 g_z181 rfl rfl | exact x_rb g_z181 rfl rfl | exact ⟨by omega, by omega⟩) (fun c182 => ?_) (fun c182 => ?_)
    · skip
      refine x_A k27_54 (fun _ => rfl) ?_
      exact x_lret k27_55 rfl ⟨hG, f, x3, rfl, b_x3⟩
    · skip
      refine x_A k27_14 (fun _ => rfl) ?_
      refine x_getR k27_15 (f := 2) rfl (q := 50) (n := 7) (kd := 6) ⟨by decide, rfl⟩ (q2 := 53) (by decide) rfl ?_
      refine x_A k27_18 (fun _ => rfl) ?_
      refine x_iald k27_20 (q := 53) (n := 120) ⟨by decide, rfl⟩ (by decide) (by first | exact x_rbl b_x5 rfl rfl | exact ⟨by omega, by omega⟩) ?_
      refine x_top (fun z183 e_z183 => ?_)
      have g_z183 : (0 : Int) ≤ s 53 x5.toNat ∧ s 53 x5.toNat ≤ 7 := hG 53 x5.toNat
      refine x_A k27_21 (fun _ => rfl) ?_
      refine x_ic_ne k27_22 (t := 48) rfl (by first | exact x_rbe e_z183 g_z183 rfl rfl | exact x_rb g_z183 rfl rfl | exact ⟨by omega, by omega⟩) (by first | exact x_rb b_x1 rfl rfl | exact ⟨by omega, by omega⟩) (fun c184 => ?_) (fun c184 => ?_)
      · skip
        refine x_iinc k27_48 (ls' := [(5, vi (x5 + 1)), (0, .ref 50), (1, vi x1), (2, vi x2), (3, vj x3)]) rfl (by decide) rfl ?_
        refine x_goto k27_51 (t := 5) rfl ?_
        refine x_ls (l := [(0, .ref 50), (1, vi x1), (2, vi x2), (3, vj x3), (5, vi (x5 + 1))]) (show ([0, 1, 2, 3, 5] : List Nat).Nodup from by decide +kernel) ⟨rfl, rfl, rfl, rfl, rfl, trivial⟩ ?_
        exact ih s x1 x2 x3 (x5 + 1) hG f (by first | exact x_rb b_x1 rfl rfl | exact ⟨by omega, by omega⟩) (by first | exact x_rb b_x2 rfl rfl | exact ⟨by omega, by omega⟩) b_x3 ⟨by omega, by omega⟩  (by omega)
      · skip
        refine x_A k27_25 (fun _ => rfl) ?_
        refine x_getR k27_26 (f := 4) rfl (q := 50) (n := 7) (kd := 6) ⟨by decide, rfl⟩ (q2 := 55) (by decide) rfl ?_
        refine x_A k27_29 (fun _ => rfl) ?_
        refine x_iald k27_31 (q := 55) (n := 120) ⟨by decide, rfl⟩ (by decide) (by first | exact x_rbl b_x5 rfl rfl | exact ⟨by omega, by omega⟩) ?_
        refine x_top (fun z185 e_z185 => ?_)
        have g_z185 : (0 : Int) ≤ s 55 x5.toNat ∧ s 55 x5.toNat ≤ 9 := hG 55 x5.toNat
        refine x_A k27_32 (fun _ => rfl) ?_
        refine x_ic_gt k27_33 (t := 48) rfl (by first | exact x_rbe e_z185 g_z185 rfl rfl | exact x_rb g_z185 rfl rfl | exact ⟨by omega, by omega⟩) (by first | exact x_rb b_x2 rfl rfl | exact ⟨by omega, by omega⟩) (fun c186 => ?_) (fun c186 => ?_)
        · skip
          refine x_iinc k27_48 (ls' := [(5, vi (x5 + 1)), (0, .ref 50), (1, vi x1), (2, vi x2), (3, vj x3)]) rfl (by decide) rfl ?_
          refine x_goto k27_51 (t := 5) rfl ?_
          refine x_ls (l := [(0, .ref 50), (1, vi x1), (2, vi x2), (3, vj x3), (5, vi (x5 + 1))]) (show ([0, 1, 2, 3, 5] : List Nat).Nodup from by decide +kernel) ⟨rfl, rfl, rfl, rfl, rfl, trivial⟩ ?_
          exact ih s x1 x2 x3 (x5 + 1) hG f (by first | exact x_rb b_x1 rfl rfl | exact ⟨by omega, by omega⟩) (by first | exact x_rb b_x2 rfl rfl | exact ⟨by omega, by omega⟩) b_x3 ⟨by omega, by omega⟩  (by omega)
        · skip
          refine x_A k27_36 (fun _ => rfl) ?_
          refine x_lconst k27_37 (z := 1) (by decide +kernel) ?_
          refine x_A k27_38 (fun _ => rfl) ?_
          refine x_getR k27_39 (f := 0) rfl (q := 50) (n := 7) (kd := 6) ⟨by decide, rfl⟩ (q2 := 51) (by decide) rfl ?_
          refine x_A k27_42 (fun _ => rfl) ?_
          refine x_iald k27_44 (q := 51) (n := 120) ⟨by decide, rfl⟩ (by decide) (by first | exact x_rbl b_x5 rfl rfl | exact ⟨by omega, by omega⟩) ?_
          refine x_top (fun z187 e_z187 => ?_)
          have g_z187 : (0 : Int) ≤ s 51 x5.toNat ∧ s 51 x5.toNat ≤ 39 := hG 51 x5.toNat
          refine x_lshl_any k27_45 (fun z188 b_z188 => ?_)
          refine x_lor_any k27_46 (fun z189 b_z189 => ?_)
          refine x_lstore_n k27_47 (ls' := [(3, vj z189), (0, .ref 50), (1, vi x1), (2, vi x2), (5, vi x5)]) (by decide) rfl ?_
          refine x_iinc k27_48 (ls' := [(5, vi (x5 + 1)), (3, vj z189), (0, .ref 50), (1, vi x1), (2, vi x2)]) rfl (by decide) rfl ?_
          refine x_goto k27_51 (t := 5) rfl ?_
          refine x_ls (l := [(0, .ref 50), (1, vi x1), (2, vi x2), (3, vj z189), (5, vi (x5 + 1))]) (show ([0, 1, 2, 3, 5] : List Nat).Nodup from by decide +kernel) ⟨rfl, rfl, rfl, rfl, rfl, trivial⟩ ?_
          exact ih s x1 x2 z189 (x5 + 1) hG f (by first | exact x_rb b_x1 rfl rfl | exact ⟨by omega, by omega⟩) (by first | exact x_rb b_x2 rfl rfl | exact ⟨by omega, by omega⟩) b_z189 ⟨by omega, by omega⟩  (by omega)
theorem C_X2_picturesOf_50 (s0 : xS) (hG0 : GI s0) (a : Int) (b_a : (-2147483648) ≤ a ∧ a ≤ 2147483647) (b : Int) (b_b : (-2147483648) ≤ b ∧ b ≤ 2147483647) : xe none 27 0 (lv_args 0 [.ref 50, vi a, vi b]) [] s0 0 0 (fun s' v => GI s' ∧ FL [] s0 s' ∧ ∃ z, v = some (vj z) ∧ in64 z) := by
  have f0 : FL [] s0 s0 := FL.rf
  show xe none 27 0 [(0, .ref 50), (1, vi a), (2, vi b)] [] s0 0 0 _
  refine x_lconst k27_0 (z := 0) (by decide +kernel) ?_
  refine x_lstore_n k27_1 (ls' := [(3, vj 0), (0, .ref 50), (1, vi a), (2, vi b)]) (by decide) rfl ?_
  refine x_A k27_2 (fun _ => rfl) ?_
  refine x_istore k27_3 (ls' := [(5, vi 0), (3, vj 0), (0, .ref 50), (1, vi a), (2, vi b)]) (by decide) rfl ?_
  refine x_ls (l := [(0, .ref 50), (1, vi a), (2, vi b), (3, vj 0), (5, vi 0)]) (show ([0, 1, 2, 3, 5] : List Nat).Nodup from by decide +kernel) ⟨rfl, rfl, rfl, rfl, rfl, trivial⟩ ?_
  exact L_C_X2_picturesOf_50_5 s0   (((120 - 0) + 1 : Int)).toNat s0 a b 0 0 hG0 f0 (by first | exact x_rb b_a rfl rfl | exact ⟨by omega, by omega⟩) (by first | exact x_rb b_b rfl rfl | exact ⟨by omega, by omega⟩) ⟨by omega, by omega⟩ ⟨by decide, by decide⟩  (by omega)
theorem L_C_X9_marksOf_214_5 (s0 : xS)   : ∀ (n : Nat) (s : xS) (x1 : Int) (x2 : Int) (x3 : Int) (x5 : Int) (hG : GI s) (f : FL [] s0 s) (b_x1 : (-2147483648) ≤ x1 ∧ x1 ≤ 2147483647) (b_x2 : (-2147483648) ≤ x2 ∧ x2 ≤ 2147483647) (b_x3 : in64 x3) (b_x5 : 0 ≤ x5 ∧ x5 ≤ 60)  (hm : (60 - x5) < (n : Int)), xe none 89 5 [(0, .ref 214), (1, vi x1), (2, vi x2), (3, vj x3), (5, vi x5)] [] s 0 0 (fun s' v => GI s' ∧ FL [] s0 s' ∧ ∃ z, v = some (vj z) ∧ in64 z) := by
  intro n
  induction n with
  | zero => intro s x1 x2 x3 x5 hG f b_x1 b_x2 b_x3 b_x5  hm; exfalso; omega
  | succ n ih =>
    intro s x1 x2 x3 x5 hG f b_x1 b_x2 b_x3 b_x5  hm
    refine x_A k89_5 (fun _ => rfl) ?_
    refine x_A k89_7 (fun _ => rfl) ?_
    refine x_getI k89_8 (f := 3) rfl (q := 214) (n := 4) (kd := 10) ⟨by decide, rfl⟩ (by decide) rfl ?_
    refine x_top (fun z136 e_z136 => ?_)
    have g_z136 : (0 : Int) ≤ s 214 3 ∧ s 214 3 ≤ 60 := hG 214 3
    refine x_ic_ge k89_11 (t := 54) rfl (by first | exact x_rb b_x5 rfl rfl | exact ⟨by omega, by omega⟩) (by first | exact x_rbe e_z136 g_z136 rfl rfl | exact x_rb g_z136 rfl rfl | exact ⟨by omega, by omega⟩) (fun c137 => ?_) (fun c137 => ?_)
    · skip
      refine x_A k89_54 (fun _ => rfl) ?_
      exact x_lret k89_55 rfl ⟨hG, f, x3, rfl, b_x3⟩
    · skip
      refine x_A k89_14 (fun _ => rfl) ?_
      refine x_getR k89_15 (f := 0) rfl (q := 214) (n := 4) (kd := 10) ⟨by decide, rfl⟩ (q2 := 215) (by decide) rfl ?_
      refine x_A k89_18 (fun _ => rfl) ?_
      refine x_iald k89_20 (q := 215) (n := 60) ⟨by decide, rfl⟩ (by decide) (by first | exact x_rbl b_x5 rfl rfl | exact ⟨by omega, by omega⟩) ?_
      refine x_top (fun z138 e_z138 => ?_)
      have g_z138 : (0 : Int) ≤ s 215 x5.toNat ∧ s 215 x5.toNat ≤ 3 := hG 215 x5.toNat
      refine x_A k89_21 (fun _ => rfl) ?_
      refine x_ic_ne k89_22 (t := 48) rfl (by first | exact x_rbe e_z138 g_z138 rfl rfl | exact x_rb g_z138 rfl rfl | exact ⟨by omega, by omega⟩) (by first | exact x_rb b_x1 rfl rfl | exact ⟨by omega, by omega⟩) (fun c139 => ?_) (fun c139 => ?_)
      · skip
        refine x_iinc k89_48 (ls' := [(5, vi (x5 + 1)), (0, .ref 214), (1, vi x1), (2, vi x2), (3, vj x3)]) rfl (by decide) rfl ?_
        refine x_goto k89_51 (t := 5) rfl ?_
        refine x_ls (l := [(0, .ref 214), (1, vi x1), (2, vi x2), (3, vj x3), (5, vi (x5 + 1))]) (show ([0, 1, 2, 3, 5] : List Nat).Nodup from by decide +kernel) ⟨rfl, rfl, rfl, rfl, rfl, trivial⟩ ?_
        exact ih s x1 x2 x3 (x5 + 1) hG f (by first | exact x_rb b_x1 rfl rfl | exact ⟨by omega, by omega⟩) (by first | exact x_rb b_x2 rfl rfl | exact ⟨by omega, by omega⟩) b_x3 ⟨by omega, by omega⟩  (by omega)
      · skip
        refine x_A k89_25 (fun _ => rfl) ?_
        refine x_getR k89_26 (f := 1) rfl (q := 214) (n := 4) (kd := 10) ⟨by decide, rfl⟩ (q2 := 216) (by decide) rfl ?_
        refine x_A k89_29 (fun _ => rfl) ?_
        refine x_iald k89_31 (q := 216) (n := 60) ⟨by decide, rfl⟩ (by decide) (by first | exact x_rbl b_x5 rfl rfl | exact ⟨by omega, by omega⟩) ?_
        refine x_top (fun z140 e_z140 => ?_)
        have g_z140 : (0 : Int) ≤ s 216 x5.toNat ∧ s 216 x5.toNat ≤ 99 := hG 216 x5.toNat
        refine x_A k89_32 (fun _ => rfl) ?_
        refine x_ic_ne k89_33 (t := 48) rfl (by first | exact x_rbe e_z140 g_z140 rfl rfl | exact x_rb g_z140 rfl rfl | exact ⟨by omega, by omega⟩) (by first | exact x_rb b_x2 rfl rfl | exact ⟨by omega, by omega⟩) (fun c141 => ?_) (fun c141 => ?_)
        · skip
          refine x_iinc k89_48 (ls' := [(5, vi (x5 + 1)), (0, .ref 214), (1, vi x1), (2, vi x2), (3, vj x3)]) rfl (by decide) rfl ?_
          refine x_goto k89_51 (t := 5) rfl ?_
          refine x_ls (l := [(0, .ref 214), (1, vi x1), (2, vi x2), (3, vj x3), (5, vi (x5 + 1))]) (show ([0, 1, 2, 3, 5] : List Nat).Nodup from by decide +kernel) ⟨rfl, rfl, rfl, rfl, rfl, trivial⟩ ?_
          exact ih s x1 x2 x3 (x5 + 1) hG f (by first | exact x_rb b_x1 rfl rfl | exact ⟨by omega, by omega⟩) (by first | exact x_rb b_x2 rfl rfl | exact ⟨by omega, by omega⟩) b_x3 ⟨by omega, by omega⟩  (by omega)
        · skip
          refine x_A k89_36 (fun _ => rfl) ?_
          refine x_lconst k89_37 (z := 1) (by decide +kernel) ?_
          refine x_A k89_38 (fun _ => rfl) ?_
          refine x_getR k89_39 (f := 2) rfl (q := 214) (n := 4) (kd := 10) ⟨by decide, rfl⟩ (q2 := 217) (by decide) rfl ?_
          refine x_A k89_42 (fun _ => rfl) ?_
          refine x_iald k89_44 (q := 217) (n := 60) ⟨by decide, rfl⟩ (by decide) (by first | exact x_rbl b_x5 rfl rfl | exact ⟨by omega, by omega⟩) ?_
          refine x_top (fun z142 e_z142 => ?_)
          have g_z142 : (0 : Int) ≤ s 217 x5.toNat ∧ s 217 x5.toNat ≤ 39 := hG 217 x5.toNat
          refine x_lshl_any k89_45 (fun z143 b_z143 => ?_)
          refine x_lor_any k89_46 (fun z144 b_z144 => ?_)
          refine x_lstore_n k89_47 (ls' := [(3, vj z144), (0, .ref 214), (1, vi x1), (2, vi x2), (5, vi x5)]) (by decide) rfl ?_
          refine x_iinc k89_48 (ls' := [(5, vi (x5 + 1)), (3, vj z144), (0, .ref 214), (1, vi x1), (2, vi x2)]) rfl (by decide) rfl ?_
          refine x_goto k89_51 (t := 5) rfl ?_
          refine x_ls (l := [(0, .ref 214), (1, vi x1), (2, vi x2), (3, vj z144), (5, vi (x5 + 1))]) (show ([0, 1, 2, 3, 5] : List Nat).Nodup from by decide +kernel) ⟨rfl, rfl, rfl, rfl, rfl, trivial⟩ ?_
          exact ih s x1 x2 z144 (x5 + 1) hG f (by first | exact x_rb b_x1 rfl rfl | exact ⟨by omega, by omega⟩) (by first | exact x_rb b_x2 rfl rfl | exact ⟨by omega, by omega⟩) b_z144 ⟨by omega, by omega⟩  (by omega)
theorem C_X9_marksOf_214 (s0 : xS) (hG0 : GI s0) (a : Int) (b_a : (-2147483648) ≤ a ∧ a ≤ 2147483647) (b : Int) (b_b : (-2147483648) ≤ b ∧ b ≤ 2147483647) : xe none 89 0 (lv_args 0 [.ref 214, vi a, vi b]) [] s0 0 0 (fun s' v => GI s' ∧ FL [] s0 s' ∧ ∃ z, v = some (vj z) ∧ in64 z) := by
  have f0 : FL [] s0 s0 := FL.rf
  show xe none 89 0 [(0, .ref 214), (1, vi a), (2, vi b)] [] s0 0 0 _
  refine x_lconst k89_0 (z := 0) (by decide +kernel) ?_
  refine x_lstore_n k89_1 (ls' := [(3, vj 0), (0, .ref 214), (1, vi a), (2, vi b)]) (by decide) rfl ?_
  refine x_A k89_2 (fun _ => rfl) ?_
  refine x_istore k89_3 (ls' := [(5, vi 0), (3, vj 0), (0, .ref 214), (1, vi a), (2, vi b)]) (by decide) rfl ?_
  refine x_ls (l := [(0, .ref 214), (1, vi a), (2, vi b), (3, vj 0), (5, vi 0)]) (show ([0, 1, 2, 3, 5] : List Nat).Nodup from by decide +kernel) ⟨rfl, rfl, rfl, rfl, rfl, trivial⟩ ?_
  exact L_C_X9_marksOf_214_5 s0   (((60 - 0) + 1 : Int)).toNat s0 a b 0 0 hG0 f0 (by first | exact x_rb b_a rfl rfl | exact ⟨by omega, by omega⟩) (by first | exact x_rb b_b rfl rfl | exact ⟨by omega, by omega⟩) ⟨by omega, by omega⟩ ⟨by decide, by decide⟩  (by omega)
theorem L_C_X10_pick_15 (s0 : xS)   : ∀ (n : Nat) (s : xS) (x0 : Int) (x2 : Int) (x3 : Int) (x4 : Int) (hG : GI s) (f : FL [] s0 s) (b_x0 : in64 x0) (b_x2 : (-2147483648) ≤ x2 ∧ x2 ≤ 2147483647) (b_x3 : 0 ≤ x3 ∧ x3 ≤ 60) (b_x4 : 0 ≤ x4 ∧ x4 ≤ 40) (r_3_4 : x3 ≤ x4 + 0)  (hm : (40 - x4) < (n : Int)), xe none 127 15 [(0, vj x0), (2, vi x2), (3, vi x3), (4, vi x4)] [] s 0 0 (fun s' v => GI s' ∧ FL [] s0 s' ∧ ∃ z, v = some (vi z) ∧ ((-1) ≤ z ∧ z ≤ 127)) := by
  intro n
  induction n with
  | zero => intro s x0 x2 x3 x4 hG f b_x0 b_x2 b_x3 b_x4 r_3_4  hm; exfalso; omega
  | succ n ih =>
    intro s x0 x2 x3 x4 hG f b_x0 b_x2 b_x3 b_x4 r_3_4  hm
    refine x_A k127_15 (fun _ => rfl) ?_
    refine x_bipush k127_17 (by decide +kernel) ?_
    refine x_ic_ge k127_19 (t := 53) rfl (by first | exact x_rb b_x4 rfl rfl | exact ⟨by omega, by omega⟩) ⟨by decide, by decide⟩ (fun c118 => ?_) (fun c118 => ?_)
    · skip
      refine x_A k127_53 (fun _ => rfl) ?_
      exact x_iret k127_54 rfl ⟨hG, f, (-1), rfl, ⟨by decide, by decide⟩⟩
    · skip
      refine x_A k127_22 (fun _ => rfl) ?_
      refine x_A k127_23 (fun _ => rfl) ?_
      refine x_lushr_any k127_25 (fun z119 b_z119 => ?_)
      refine x_lconst k127_26 (z := 1) (by decide +kernel) ?_
      refine x_land_mask k127_27 ⟨by omega, by omega⟩ (fun z120 g_z120 => ?_)
      refine x_lconst k127_28 (z := 0) (by decide +kernel) ?_
      refine x_lc_ne k127_29 k127_30 (t := 36) rfl ⟨by omega, by omega⟩ ⟨by omega, by omega⟩ (fun c121 => ?_) (fun c121 => ?_)
      · skip
        refine x_A k127_36 (fun _ => rfl) ?_
        refine x_A k127_37 (fun _ => rfl) ?_
        refine x_ic_ne k127_38 (t := 44) rfl (by first | exact x_rb b_x3 rfl rfl | exact ⟨by omega, by omega⟩) (by first | exact x_rb b_x2 rfl rfl | exact ⟨by omega, by omega⟩) (fun c122 => ?_) (fun c122 => ?_)
        · skip
          refine x_iinc k127_44 (ls' := [(3, vi (x3 + 1)), (0, vj x0), (2, vi x2), (4, vi x4)]) rfl (by decide) rfl ?_
          refine x_iinc k127_47 (ls' := [(4, vi (x4 + 1)), (3, vi (x3 + 1)), (0, vj x0), (2, vi x2)]) rfl (by decide) rfl ?_
          refine x_goto k127_50 (t := 15) rfl ?_
          refine x_ls (l := [(0, vj x0), (2, vi x2), (3, vi (x3 + 1)), (4, vi (x4 + 1))]) (show ([0, 2, 3, 4] : List Nat).Nodup from by decide +kernel) ⟨rfl, rfl, rfl, rfl, trivial⟩ ?_
          exact ih s x0 x2 (x3 + 1) (x4 + 1) hG f b_x0 (by first | exact x_rb b_x2 rfl rfl | exact ⟨by omega, by omega⟩) ⟨by omega, by omega⟩ ⟨by omega, by omega⟩ (by omega)  (by omega)
        · skip
          refine x_A k127_41 (fun _ => rfl) ?_
          exact x_iret k127_43 rfl ⟨hG, f, x4, rfl, (by first | exact x_rb b_x4 rfl rfl | exact ⟨by omega, by omega⟩)⟩
      · skip
        refine x_goto k127_33 (t := 47) rfl ?_
        refine x_iinc k127_47 (ls' := [(4, vi (x4 + 1)), (0, vj x0), (2, vi x2), (3, vi x3)]) rfl (by decide) rfl ?_
        refine x_goto k127_50 (t := 15) rfl ?_
        refine x_ls (l := [(0, vj x0), (2, vi x2), (3, vi x3), (4, vi (x4 + 1))]) (show ([0, 2, 3, 4] : List Nat).Nodup from by decide +kernel) ⟨rfl, rfl, rfl, rfl, trivial⟩ ?_
        exact ih s x0 x2 x3 (x4 + 1) hG f b_x0 (by first | exact x_rb b_x2 rfl rfl | exact ⟨by omega, by omega⟩) (by first | exact x_rb b_x3 rfl rfl | exact ⟨by omega, by omega⟩) ⟨by omega, by omega⟩ (by omega)  (by omega)
theorem C_X10_pick (s0 : xS) (hG0 : GI s0) (a : Int) (b_a : in64 a) (b : Int) (b_b : (-2147483648) ≤ b ∧ b ≤ 2147483647) : xe none 127 0 (lv_args 0 [vj a, vi b]) [] s0 0 0 (fun s' v => GI s' ∧ FL [] s0 s' ∧ ∃ z, v = some (vi z) ∧ ((-1) ≤ z ∧ z ≤ 127)) := by
  have f0 : FL [] s0 s0 := FL.rf
  show xe none 127 0 [(0, vj a), (2, vi b)] [] s0 0 0 _
  refine x_A k127_0 (fun _ => rfl) ?_
  refine x_A k127_1 (fun _ => rfl) ?_
  refine x_ic_ne k127_2 (t := 10) rfl (by first | exact x_rb b_b rfl rfl | exact ⟨by omega, by omega⟩) ⟨by decide, by decide⟩ (fun c123 => ?_) (fun c123 => ?_)
  · skip
    refine x_A k127_10 (fun _ => rfl) ?_
    refine x_istore_n k127_11 (ls' := [(3, vi 0), (0, vj a), (2, vi b)]) (by decide) rfl ?_
    refine x_A k127_12 (fun _ => rfl) ?_
    refine x_istore k127_13 (ls' := [(4, vi 0), (3, vi 0), (0, vj a), (2, vi b)]) (by decide) rfl ?_
    refine x_ls (l := [(0, vj a), (2, vi b), (3, vi 0), (4, vi 0)]) (show ([0, 2, 3, 4] : List Nat).Nodup from by decide +kernel) ⟨rfl, rfl, rfl, rfl, trivial⟩ ?_
    exact L_C_X10_pick_15 s0   (((40 - 0) + 1 : Int)).toNat s0 a b 0 0 hG0 f0 b_a (by first | exact x_rb b_b rfl rfl | exact ⟨by omega, by omega⟩) ⟨by decide, by decide⟩ ⟨by decide, by decide⟩ (by omega)  (by omega)
  · skip
    refine x_A k127_5 (fun _ => rfl) ?_
    refine x_callS k127_6 (y := 219) (n := 1) (w0 := 0) (w1 := 2) (as := [vj a]) (rest := []) (by decide +kernel) rfl rfl rfl rfl (xe_mono (C_J13_bitCount_95d88 s0 hG0 a b_a) ?_)
    rintro s125 v ⟨-, t_s125, z124, rfl, g_z124⟩
    rw [t_s125.nil]
    show xe none 127 9 [(0, vj a), (2, vi b)] [vi z124] s0 0 0 _
    exact x_iret k127_9 rfl ⟨hG0, f0, z124, rfl, (by first | exact x_rbe e_z124 g_z124 rfl rfl | exact x_rb g_z124 rfl rfl | exact ⟨by omega, by omega⟩)⟩
theorem L_C_X8_showingAny_243_5 (s0 : xS)   : ∀ (n : Nat) (s : xS) (x1 : Int) (x3 : Int) (x5 : Int) (hG : GI s) (f : FL [] s0 s) (b_x1 : in64 x1) (b_x3 : in64 x3) (b_x5 : 0 ≤ x5 ∧ x5 ≤ 40)  (hm : (40 - x5) < (n : Int)), xe none 80 5 [(0, .ref 243), (1, vj x1), (3, vj x3), (5, vi x5)] [] s 0 0 (fun s' v => GI s' ∧ FL [] s0 s' ∧ ∃ z, v = some (vj z) ∧ in64 z) := by
  intro n
  induction n with
  | zero => intro s x1 x3 x5 hG f b_x1 b_x3 b_x5  hm; exfalso; omega
  | succ n ih =>
    intro s x1 x3 x5 hG f b_x1 b_x3 b_x5  hm
    refine x_A k80_5 (fun _ => rfl) ?_
    refine x_bipush k80_7 (by decide +kernel) ?_
    refine x_ic_ge k80_9 (t := 39) rfl (by first | exact x_rb b_x5 rfl rfl | exact ⟨by omega, by omega⟩) ⟨by decide, by decide⟩ (fun c85 => ?_) (fun c85 => ?_)
    · skip
      refine x_A k80_39 (fun _ => rfl) ?_
      exact x_lret k80_40 rfl ⟨hG, f, x3, rfl, b_x3⟩
    · skip
      refine x_A k80_12 (fun _ => rfl) ?_
      refine x_getR k80_13 (f := 10) rfl (q := 243) (n := 13) (kd := 13) ⟨by decide, rfl⟩ (q2 := 255) (by decide) rfl ?_
      refine x_A k80_16 (fun _ => rfl) ?_
      refine x_lald k80_18 (q := 255) (n := 40) ⟨by decide, rfl⟩ (by decide) (by first | exact x_rbl b_x5 rfl rfl | exact ⟨by omega, by omega⟩) ?_
      refine x_topL (fun z86 e_z86 => ?_)
      have b_z86 : in64 z86 := by rw [e_z86]; exact hG 255 x5.toNat
      refine x_A k80_19 (fun _ => rfl) ?_
      refine x_land_any k80_20 (fun z87 b_z87 => ?_)
      refine x_lconst k80_21 (z := 0) (by decide +kernel) ?_
      refine x_lc_eq k80_22 k80_23 (t := 33) rfl b_z87 ⟨by omega, by omega⟩ (fun c88 => ?_) (fun c88 => ?_)
      · skip
        refine x_iinc k80_33 (ls' := [(5, vi (x5 + 1)), (0, .ref 243), (1, vj x1), (3, vj x3)]) rfl (by decide) rfl ?_
        refine x_goto k80_36 (t := 5) rfl ?_
        refine x_ls (l := [(0, .ref 243), (1, vj x1), (3, vj x3), (5, vi (x5 + 1))]) (show ([0, 1, 3, 5] : List Nat).Nodup from by decide +kernel) ⟨rfl, rfl, rfl, rfl, trivial⟩ ?_
        exact ih s x1 x3 (x5 + 1) hG f b_x1 b_x3 ⟨by omega, by omega⟩  (by omega)
      · skip
        refine x_A k80_26 (fun _ => rfl) ?_
        refine x_lconst k80_27 (z := 1) (by decide +kernel) ?_
        refine x_A k80_28 (fun _ => rfl) ?_
        refine x_lshl_any k80_30 (fun z89 b_z89 => ?_)
        refine x_lor_any k80_31 (fun z90 b_z90 => ?_)
        refine x_lstore_n k80_32 (ls' := [(3, vj z90), (0, .ref 243), (1, vj x1), (5, vi x5)]) (by decide) rfl ?_
        refine x_iinc k80_33 (ls' := [(5, vi (x5 + 1)), (3, vj z90), (0, .ref 243), (1, vj x1)]) rfl (by decide) rfl ?_
        refine x_goto k80_36 (t := 5) rfl ?_
        refine x_ls (l := [(0, .ref 243), (1, vj x1), (3, vj z90), (5, vi (x5 + 1))]) (show ([0, 1, 3, 5] : List Nat).Nodup from by decide +kernel) ⟨rfl, rfl, rfl, rfl, trivial⟩ ?_
        exact ih s x1 z90 (x5 + 1) hG f b_x1 b_z90 ⟨by omega, by omega⟩  (by omega)
theorem C_X8_showingAny_243 (s0 : xS) (hG0 : GI s0) (a : Int) (b_a : in64 a) : xe none 80 0 (lv_args 0 [.ref 243, vj a]) [] s0 0 0 (fun s' v => GI s' ∧ FL [] s0 s' ∧ ∃ z, v = some (vj z) ∧ in64 z) := by
  have f0 : FL [] s0 s0 := FL.rf
  show xe none 80 0 [(0, .ref 243), (1, vj a)] [] s0 0 0 _
  refine x_lconst k80_0 (z := 0) (by decide +kernel) ?_
  refine x_lstore_n k80_1 (ls' := [(3, vj 0), (0, .ref 243), (1, vj a)]) (by decide) rfl ?_
  refine x_A k80_2 (fun _ => rfl) ?_
  refine x_istore k80_3 (ls' := [(5, vi 0), (3, vj 0), (0, .ref 243), (1, vj a)]) (by decide) rfl ?_
  refine x_ls (l := [(0, .ref 243), (1, vj a), (3, vj 0), (5, vi 0)]) (show ([0, 1, 3, 5] : List Nat).Nodup from by decide +kernel) ⟨rfl, rfl, rfl, rfl, trivial⟩ ?_
  exact L_C_X8_showingAny_243_5 s0   (((40 - 0) + 1 : Int)).toNat s0 a 0 0 hG0 f0 b_a ⟨by omega, by omega⟩ ⟨by decide, by decide⟩  (by omega)
theorem C_X8_showing_243 (s0 : xS) (hG0 : GI s0) (a : Int) (b_a : (-2147483648) ≤ a ∧ a ≤ 2147483647) : xe none 79 0 (lv_args 0 [.ref 243, vi a]) [] s0 0 0 (fun s' v => GI s' ∧ FL [] s0 s' ∧ ∃ z, v = some (vj z) ∧ in64 z) := by
  have f0 : FL [] s0 s0 := FL.rf
  show xe none 79 0 [(0, .ref 243), (1, vi a)] [] s0 0 0 _
  refine x_A k79_0 (fun _ => rfl) ?_
  refine x_lconst k79_1 (z := 1) (by decide +kernel) ?_
  refine x_A k79_2 (fun _ => rfl) ?_
  refine x_lshl_any k79_3 (fun z1 b_z1 => ?_)
  refine x_callV k79_4 (y := 80) (n := 1) (w0 := 0) (w1 := 2) (as := [vj z1]) (rest := []) (by decide +kernel) (q := 243) (nq := 13) (kq := 13) ⟨by decide, rfl⟩ rfl rfl rfl rfl (xe_mono (C_X8_showingAny_243 s0 hG0 z1 b_z1) ?_)
  rintro s3 v ⟨-, t_s3, z2, rfl, b_z2⟩
  rw [t_s3.nil]
  show xe none 79 7 [(0, .ref 243), (1, vi a)] [vj z2] s0 0 0 _
  exact x_lret k79_7 rfl ⟨hG0, f0, z2, rfl, b_z2⟩
theorem L_C_X6_advance_177_95 (s0 : xS)   : ∀ (n : Nat) (s : xS) (x1000 : Int) (x1001 : Int) (x1002 : Int) (x1003 : Int) (hG : GI s) (f : FL [1219, 1220, 1221] s0 s) (b_x1000 : 0 ≤ x1000 ∧ x1000 ≤ 160) (b_x1001 : 1 ≤ x1001 ∧ x1001 ≤ 2) (b_x1002 : 0 ≤ x1002 ∧ x1002 ≤ 160) (b_x1003 : 1 ≤ x1003 ∧ x1003 ≤ 161) (r_1002_1003 : x1002 ≤ x1003 + 0) (e_x1000 : x1000 = s 177 1) (e_x1001 : x1001 = s 177 2) (e_x1002 : x1002 = s 177 3) (e_x1003 : x1003 = s 177 4)  (hm : (161 - x1003) < (n : Int)), xe none 51 95 [(0, .ref 177)] [] s 0 0 (fun s' v => GI s' ∧ FL [1219, 1220, 1221] s0 s' ∧ v = none) := by
  intro n
  induction n with
  | zero => intro s x1000 x1001 x1002 x1003 hG f b_x1000 b_x1001 b_x1002 b_x1003 r_1002_1003 e_x1000 e_x1001 e_x1002 e_x1003  hm; exfalso; omega
  | succ n ih =>
    intro s x1000 x1001 x1002 x1003 hG f b_x1000 b_x1001 b_x1002 b_x1003 r_1002_1003 e_x1000 e_x1001 e_x1002 e_x1003  hm
    refine x_A k51_95 (fun _ => rfl) ?_
    refine x_getI k51_96 (f := 4) rfl (q := 177) (n := 7) (kd := 7) ⟨by decide, rfl⟩ (by decide) rfl ?_
    rw [e_x1003.symm]
    refine x_A k51_99 (fun _ => rfl) ?_
    refine x_getI k51_100 (f := 1) rfl (q := 177) (n := 7) (kd := 7) ⟨by decide, rfl⟩ (by decide) rfl ?_
    rw [e_x1000.symm]
    refine x_ic_ge k51_103 (t := 137) rfl (by first | exact x_rb b_x1003 rfl rfl | exact ⟨by omega, by omega⟩) (by first | exact x_rb b_x1000 rfl rfl | exact ⟨by omega, by omega⟩) (fun c199 => ?_) (fun c199 => ?_)
    · skip
      exact x_vret k51_137 rfl ⟨hG, f, rfl⟩
    · skip
      refine x_A k51_106 (fun _ => rfl) ?_
      refine x_A k51_107 (fun _ => rfl) ?_
      refine x_getI k51_108 (f := 4) rfl (q := 177) (n := 7) (kd := 7) ⟨by decide, rfl⟩ (by decide) rfl ?_
      rw [e_x1003.symm]
      refine x_callV k51_111 (y := 49) (n := 1) (w0 := 0) (w1 := 1) (as := [vi x1003]) (rest := []) (by decide +kernel) (q := 177) (nq := 7) (kq := 7) ⟨by decide, rfl⟩ rfl rfl rfl rfl (xe_mono (C_X6_byteAt_177 s hG x1003 (by first | exact x_rb b_x1003 rfl rfl | exact ⟨by omega, by omega⟩)) ?_)
      rintro s201 v ⟨h_s201, z200, rfl, g_z200⟩
      rw [h_s201]
      show xe none 51 114 [(0, .ref 177)] [vi z200] s 0 0 _
      refine x_callS k51_114 (y := 50) (n := 1) (w0 := 0) (w1 := 1) (as := [vi z200]) (rest := []) (by decide +kernel) rfl rfl rfl rfl (xe_mono (C_X6_kindOf s hG z200 (by first | exact x_rbe e_z200 g_z200 rfl rfl | exact x_rb g_z200 rfl rfl | exact ⟨by omega, by omega⟩)) ?_)
      rintro s203 v ⟨h_s203, z202, rfl, g_z202⟩
      rw [h_s203]
      show xe none 51 117 [(0, .ref 177)] [vi z202] s 0 0 _
      refine x_A k51_117 (fun _ => rfl) ?_
      refine x_getI k51_118 (f := 2) rfl (q := 177) (n := 7) (kd := 7) ⟨by decide, rfl⟩ (by decide) rfl ?_
      rw [e_x1001.symm]
      refine x_ic_ne k51_121 (t := 137) rfl (by first | exact x_rbe e_z202 g_z202 rfl rfl | exact x_rb g_z202 rfl rfl | exact ⟨by omega, by omega⟩) (by first | exact x_rb b_x1001 rfl rfl | exact ⟨by omega, by omega⟩) (fun c204 => ?_) (fun c204 => ?_)
      · skip
        exact x_vret k51_137 rfl ⟨hG, f, rfl⟩
      · skip
        refine x_A k51_124 (fun _ => rfl) ?_
        refine x_A k51_125 (fun _ => rfl) ?_
        refine x_getI k51_126 (f := 4) rfl (q := 177) (n := 7) (kd := 7) ⟨by decide, rfl⟩ (by decide) rfl ?_
        rw [e_x1003.symm]
        refine x_A k51_129 (fun _ => rfl) ?_
        refine x_iadd k51_130 ?_
        refine x_top (fun z205 e_z205 => ?_)
        refine x_putI k51_131 (f := 4) rfl (q := 177) (n := 7) (kd := 7) ⟨by decide, rfl⟩ rfl rfl rfl ?_
        refine x_nh (fun s206 e_s206 => ?_)
        have hG_s206 : GI s206 := by rw [e_s206]; exact hG.up (show 0 ≤ z205 ∧ z205 ≤ 160 from (by first | exact x_rbe e_z205 g_z205 rfl rfl | exact x_rb g_z205 rfl rfl | exact ⟨by omega, by omega⟩))
        have f_s206 : FL [1219, 1220, 1221] s0 s206 := by rw [e_s206]; exact f.up (show 1221 ∈ [1219, 1220, 1221] from by decide +kernel)
        have q207 : s206 177 1 = x1000 := by rw [e_s206, x_up_i (by decide)]; exact e_x1000.symm
        have q208 : s206 177 2 = x1001 := by rw [e_s206, x_up_i (by decide)]; exact e_x1001.symm
        have q209 : s206 177 3 = x1002 := by rw [e_s206, x_up_i (by decide)]; exact e_x1002.symm
        have q210 : s206 177 4 = z205 := by rw [e_s206]; exact x_up_same
        refine x_goto k51_134 (t := 95) rfl ?_
        refine x_ls (l := [(0, .ref 177)]) (show ([0] : List Nat).Nodup from by decide +kernel) ⟨rfl, trivial⟩ ?_
        exact ih s206 x1000 x1001 x1002 z205 hG_s206 f_s206 (by first | exact x_rb b_x1000 rfl rfl | exact ⟨by omega, by omega⟩) (by first | exact x_rb b_x1001 rfl rfl | exact ⟨by omega, by omega⟩) (by first | exact x_rb b_x1002 rfl rfl | exact ⟨by omega, by omega⟩) (by first | exact x_rbe e_z205 g_z205 rfl rfl | exact x_rb g_z205 rfl rfl | exact ⟨by omega, by omega⟩) (by omega) (q207).symm (q208).symm (q209).symm (q210).symm  (by omega)
theorem L_C_X6_advance_177_8 (s0 : xS)   : ∀ (n : Nat) (s : xS) (x1000 : Int) (x1001 : Int) (x1002 : Int) (x1003 : Int) (hG : GI s) (f : FL [1219, 1220, 1221] s0 s) (b_x1000 : 0 ≤ x1000 ∧ x1000 ≤ 160) (b_x1001 : 0 ≤ x1001 ∧ x1001 ≤ 3) (b_x1002 : 0 ≤ x1002 ∧ x1002 ≤ 160) (b_x1003 : 0 ≤ x1003 ∧ x1003 ≤ 160) (r_1003_1002 : x1003 ≤ x1002 + 0) (e_x1000 : x1000 = s 177 1) (e_x1001 : x1001 = s 177 2) (e_x1002 : x1002 = s 177 3) (e_x1003 : x1003 = s 177 4)  (hm : (160 - x1002) < (n : Int)), xe none 51 8 [(0, .ref 177)] [] s 0 0 (fun s' v => GI s' ∧ FL [1219, 1220, 1221] s0 s' ∧ v = none) := by
  intro n
  induction n with
  | zero => intro s x1000 x1001 x1002 x1003 hG f b_x1000 b_x1001 b_x1002 b_x1003 r_1003_1002 e_x1000 e_x1001 e_x1002 e_x1003  hm; exfalso; omega
  | succ n ih =>
    intro s x1000 x1001 x1002 x1003 hG f b_x1000 b_x1001 b_x1002 b_x1003 r_1003_1002 e_x1000 e_x1001 e_x1002 e_x1003  hm
    refine x_A k51_8 (fun _ => rfl) ?_
    refine x_getI k51_9 (f := 3) rfl (q := 177) (n := 7) (kd := 7) ⟨by decide, rfl⟩ (by decide) rfl ?_
    rw [e_x1002.symm]
    refine x_A k51_12 (fun _ => rfl) ?_
    refine x_getI k51_13 (f := 1) rfl (q := 177) (n := 7) (kd := 7) ⟨by decide, rfl⟩ (by decide) rfl ?_
    rw [e_x1000.symm]
    refine x_ic_ge k51_16 (t := 45) rfl (by first | exact x_rb b_x1002 rfl rfl | exact ⟨by omega, by omega⟩) (by first | exact x_rb b_x1000 rfl rfl | exact ⟨by omega, by omega⟩) (fun c211 => ?_) (fun c211 => ?_)
    · skip
      refine x_A k51_45 (fun _ => rfl) ?_
      refine x_A k51_46 (fun _ => rfl) ?_
      refine x_A k51_47 (fun _ => rfl) ?_
      refine x_getI k51_48 (f := 3) rfl (q := 177) (n := 7) (kd := 7) ⟨by decide, rfl⟩ (by decide) rfl ?_
      rw [e_x1002.symm]
      refine x_callV k51_51 (y := 49) (n := 1) (w0 := 1) (w1 := 1) (as := [vi x1002]) (rest := [.ref 177]) (by decide +kernel) (q := 177) (nq := 7) (kq := 7) ⟨by decide, rfl⟩ rfl rfl rfl rfl (xe_mono (C_X6_byteAt_177 s hG x1002 (by first | exact x_rb b_x1002 rfl rfl | exact ⟨by omega, by omega⟩)) ?_)
      rintro s213 v ⟨h_s213, z212, rfl, g_z212⟩
      rw [h_s213]
      show xe none 51 54 [(0, .ref 177)] [vi z212, .ref 177] s 0 0 _
      refine x_callS k51_54 (y := 50) (n := 1) (w0 := 1) (w1 := 1) (as := [vi z212]) (rest := [.ref 177]) (by decide +kernel) rfl rfl rfl rfl (xe_mono (C_X6_kindOf s hG z212 (by first | exact x_rbe e_z212 g_z212 rfl rfl | exact x_rb g_z212 rfl rfl | exact ⟨by omega, by omega⟩)) ?_)
      rintro s215 v ⟨h_s215, z214, rfl, g_z214⟩
      rw [h_s215]
      show xe none 51 57 [(0, .ref 177)] [vi z214, .ref 177] s 0 0 _
      refine x_putI k51_57 (f := 2) rfl (q := 177) (n := 7) (kd := 7) ⟨by decide, rfl⟩ rfl rfl rfl ?_
      refine x_nh (fun s216 e_s216 => ?_)
      have hG_s216 : GI s216 := by rw [e_s216]; exact hG.up (show 0 ≤ z214 ∧ z214 ≤ 3 from (by first | exact x_rbe e_z214 g_z214 rfl rfl | exact x_rb g_z214 rfl rfl | exact ⟨by omega, by omega⟩))
      have f_s216 : FL [1219, 1220, 1221] s0 s216 := by rw [e_s216]; exact f.up (show 1219 ∈ [1219, 1220, 1221] from by decide +kernel)
      have q217 : s216 177 1 = x1000 := by rw [e_s216, x_up_i (by decide)]; exact e_x1000.symm
      have q218 : s216 177 3 = x1002 := by rw [e_s216, x_up_i (by decide)]; exact e_x1002.symm
      have q219 : s216 177 4 = x1003 := by rw [e_s216, x_up_i (by decide)]; exact e_x1003.symm
      have q220 : s216 177 2 = z214 := by rw [e_s216]; exact x_up_same
      refine x_A k51_60 (fun _ => rfl) ?_
      refine x_A k51_61 (fun _ => rfl) ?_
      refine x_getI k51_62 (f := 3) rfl (q := 177) (n := 7) (kd := 7) ⟨by decide, rfl⟩ (by decide) rfl ?_
      rw [q218]
      refine x_putI k51_65 (f := 4) rfl (q := 177) (n := 7) (kd := 7) ⟨by decide, rfl⟩ rfl rfl rfl ?_
      refine x_nh (fun s221 e_s221 => ?_)
      have hG_s221 : GI s221 := by rw [e_s221]; exact hG_s216.up (show 0 ≤ x1002 ∧ x1002 ≤ 160 from (by first | exact x_rb b_x1002 rfl rfl | exact ⟨by omega, by omega⟩))
      have f_s221 : FL [1219, 1220, 1221] s0 s221 := by rw [e_s221]; exact f_s216.up (show 1221 ∈ [1219, 1220, 1221] from by decide +kernel)
      have q222 : s221 177 1 = x1000 := by rw [e_s221, x_up_i (by decide)]; exact q217
      have q223 : s221 177 3 = x1002 := by rw [e_s221, x_up_i (by decide)]; exact q218
      have q224 : s221 177 2 = z214 := by rw [e_s221, x_up_i (by decide)]; exact q220
      have q225 : s221 177 4 = x1002 := by rw [e_s221]; exact x_up_same
      refine x_A k51_68 (fun _ => rfl) ?_
      refine x_getI k51_69 (f := 2) rfl (q := 177) (n := 7) (kd := 7) ⟨by decide, rfl⟩ (by decide) rfl ?_
      rw [q224]
      refine x_if_ne k51_72 (t := 76) rfl (by first | exact x_rbe e_z214 g_z214 rfl rfl | exact x_rb g_z214 rfl rfl | exact ⟨by omega, by omega⟩) (fun c226 => ?_) (fun c226 => ?_)
      · skip
        refine x_A k51_76 (fun _ => rfl) ?_
        refine x_A k51_77 (fun _ => rfl) ?_
        refine x_getI k51_78 (f := 4) rfl (q := 177) (n := 7) (kd := 7) ⟨by decide, rfl⟩ (by decide) rfl ?_
        rw [q225]
        refine x_A k51_81 (fun _ => rfl) ?_
        refine x_iadd k51_82 ?_
        refine x_top (fun z227 e_z227 => ?_)
        refine x_putI k51_83 (f := 4) rfl (q := 177) (n := 7) (kd := 7) ⟨by decide, rfl⟩ rfl rfl rfl ?_
        refine x_nh (fun s228 e_s228 => ?_)
        have hG_s228 : GI s228 := by rw [e_s228]; exact hG_s221.up (show 0 ≤ z227 ∧ z227 ≤ 160 from (by first | exact x_rbe e_z227 g_z227 rfl rfl | exact x_rb g_z227 rfl rfl | exact ⟨by omega, by omega⟩))
        have f_s228 : FL [1219, 1220, 1221] s0 s228 := by rw [e_s228]; exact f_s221.up (show 1221 ∈ [1219, 1220, 1221] from by decide +kernel)
        have q229 : s228 177 1 = x1000 := by rw [e_s228, x_up_i (by decide)]; exact q222
        have q230 : s228 177 3 = x1002 := by rw [e_s228, x_up_i (by decide)]; exact q223
        have q231 : s228 177 2 = z214 := by rw [e_s228, x_up_i (by decide)]; exact q224
        have q232 : s228 177 4 = z227 := by rw [e_s228]; exact x_up_same
        refine x_A k51_86 (fun _ => rfl) ?_
        refine x_getI k51_87 (f := 2) rfl (q := 177) (n := 7) (kd := 7) ⟨by decide, rfl⟩ (by decide) rfl ?_
        rw [q231]
        refine x_A k51_90 (fun _ => rfl) ?_
        refine x_ic_ne k51_91 (t := 95) rfl (by first | exact x_rbe e_z214 g_z214 rfl rfl | exact x_rb g_z214 rfl rfl | exact ⟨by omega, by omega⟩) ⟨by decide, by decide⟩ (fun c233 => ?_) (fun c233 => ?_)
        · skip
          refine x_ls (l := [(0, .ref 177)]) (show ([0] : List Nat).Nodup from by decide +kernel) ⟨rfl, trivial⟩ ?_
          exact L_C_X6_advance_177_95 s0   (((161 - z227) + 1 : Int)).toNat s228 x1000 z214 x1002 z227 hG_s228 f_s228 (by first | exact x_rb b_x1000 rfl rfl | exact ⟨by omega, by omega⟩) (by first | exact x_rbe e_z214 g_z214 rfl rfl | exact x_rb g_z214 rfl rfl | exact ⟨by omega, by omega⟩) (by first | exact x_rb b_x1002 rfl rfl | exact ⟨by omega, by omega⟩) (by first | exact x_rbe e_z227 g_z227 rfl rfl | exact x_rb g_z227 rfl rfl | exact ⟨by omega, by omega⟩) (by omega) (q229).symm (q231).symm (q230).symm (q232).symm  (by omega)
        · skip
          exact x_vret k51_94 rfl ⟨hG_s228, f_s228, rfl⟩
      · skip
        exact x_vret k51_75 rfl ⟨hG_s221, f_s221, rfl⟩
    · skip
      refine x_A k51_19 (fun _ => rfl) ?_
      refine x_A k51_20 (fun _ => rfl) ?_
      refine x_getI k51_21 (f := 3) rfl (q := 177) (n := 7) (kd := 7) ⟨by decide, rfl⟩ (by decide) rfl ?_
      rw [e_x1002.symm]
      refine x_callV k51_24 (y := 49) (n := 1) (w0 := 0) (w1 := 1) (as := [vi x1002]) (rest := []) (by decide +kernel) (q := 177) (nq := 7) (kq := 7) ⟨by decide, rfl⟩ rfl rfl rfl rfl (xe_mono (C_X6_byteAt_177 s hG x1002 (by first | exact x_rb b_x1002 rfl rfl | exact ⟨by omega, by omega⟩)) ?_)
      rintro s235 v ⟨h_s235, z234, rfl, g_z234⟩
      rw [h_s235]
      show xe none 51 27 [(0, .ref 177)] [vi z234] s 0 0 _
      refine x_bipush k51_27 (by decide +kernel) ?_
      refine x_ic_ne k51_29 (t := 45) rfl (by first | exact x_rbe e_z234 g_z234 rfl rfl | exact x_rb g_z234 rfl rfl | exact ⟨by omega, by omega⟩) ⟨by decide, by decide⟩ (fun c236 => ?_) (fun c236 => ?_)
      · skip
        refine x_A k51_45 (fun _ => rfl) ?_
        refine x_A k51_46 (fun _ => rfl) ?_
        refine x_A k51_47 (fun _ => rfl) ?_
        refine x_getI k51_48 (f := 3) rfl (q := 177) (n := 7) (kd := 7) ⟨by decide, rfl⟩ (by decide) rfl ?_
        rw [e_x1002.symm]
        refine x_callV k51_51 (y := 49) (n := 1) (w0 := 1) (w1 := 1) (as := [vi x1002]) (rest := [.ref 177]) (by decide +kernel) (q := 177) (nq := 7) (kq := 7) ⟨by decide, rfl⟩ rfl rfl rfl rfl (xe_mono (C_X6_byteAt_177 s hG x1002 (by first | exact x_rb b_x1002 rfl rfl | exact ⟨by omega, by omega⟩)) ?_)
        rintro s238 v ⟨h_s238, z237, rfl, g_z237⟩
        rw [h_s238]
        show xe none 51 54 [(0, .ref 177)] [vi z237, .ref 177] s 0 0 _
        refine x_callS k51_54 (y := 50) (n := 1) (w0 := 1) (w1 := 1) (as := [vi z237]) (rest := [.ref 177]) (by decide +kernel) rfl rfl rfl rfl (xe_mono (C_X6_kindOf s hG z237 (by first | exact x_rbe e_z237 g_z237 rfl rfl | exact x_rb g_z237 rfl rfl | exact ⟨by omega, by omega⟩)) ?_)
        rintro s240 v ⟨h_s240, z239, rfl, g_z239⟩
        rw [h_s240]
        show xe none 51 57 [(0, .ref 177)] [vi z239, .ref 177] s 0 0 _
        refine x_putI k51_57 (f := 2) rfl (q := 177) (n := 7) (kd := 7) ⟨by decide, rfl⟩ rfl rfl rfl ?_
        refine x_nh (fun s241 e_s241 => ?_)
        have hG_s241 : GI s241 := by rw [e_s241]; exact hG.up (show 0 ≤ z239 ∧ z239 ≤ 3 from (by first | exact x_rbe e_z239 g_z239 rfl rfl | exact x_rb g_z239 rfl rfl | exact ⟨by omega, by omega⟩))
        have f_s241 : FL [1219, 1220, 1221] s0 s241 := by rw [e_s241]; exact f.up (show 1219 ∈ [1219, 1220, 1221] from by decide +kernel)
        have q242 : s241 177 1 = x1000 := by rw [e_s241, x_up_i (by decide)]; exact e_x1000.symm
        have q243 : s241 177 3 = x1002 := by rw [e_s241, x_up_i (by decide)]; exact e_x1002.symm
        have q244 : s241 177 4 = x1003 := by rw [e_s241, x_up_i (by decide)]; exact e_x1003.symm
        have q245 : s241 177 2 = z239 := by rw [e_s241]; exact x_up_same
        refine x_A k51_60 (fun _ => rfl) ?_
        refine x_A k51_61 (fun _ => rfl) ?_
        refine x_getI k51_62 (f := 3) rfl (q := 177) (n := 7) (kd := 7) ⟨by decide, rfl⟩ (by decide) rfl ?_
        rw [q243]
        refine x_putI k51_65 (f := 4) rfl (q := 177) (n := 7) (kd := 7) ⟨by decide, rfl⟩ rfl rfl rfl ?_
        refine x_nh (fun s246 e_s246 => ?_)
        have hG_s246 : GI s246 := by rw [e_s246]; exact hG_s241.up (show 0 ≤ x1002 ∧ x1002 ≤ 160 from (by first | exact x_rb b_x1002 rfl rfl | exact ⟨by omega, by omega⟩))
        have f_s246 : FL [1219, 1220, 1221] s0 s246 := by rw [e_s246]; exact f_s241.up (show 1221 ∈ [1219, 1220, 1221] from by decide +kernel)
        have q247 : s246 177 1 = x1000 := by rw [e_s246, x_up_i (by decide)]; exact q242
        have q248 : s246 177 3 = x1002 := by rw [e_s246, x_up_i (by decide)]; exact q243
        have q249 : s246 177 2 = z239 := by rw [e_s246, x_up_i (by decide)]; exact q245
        have q250 : s246 177 4 = x1002 := by rw [e_s246]; exact x_up_same
        refine x_A k51_68 (fun _ => rfl) ?_
        refine x_getI k51_69 (f := 2) rfl (q := 177) (n := 7) (kd := 7) ⟨by decide, rfl⟩ (by decide) rfl ?_
        rw [q249]
        refine x_if_ne k51_72 (t := 76) rfl (by first | exact x_rbe e_z239 g_z239 rfl rfl | exact x_rb g_z239 rfl rfl | exact ⟨by omega, by omega⟩) (fun c251 => ?_) (fun c251 => ?_)
        · skip
          refine x_A k51_76 (fun _ => rfl) ?_
          refine x_A k51_77 (fun _ => rfl) ?_
          refine x_getI k51_78 (f := 4) rfl (q := 177) (n := 7) (kd := 7) ⟨by decide, rfl⟩ (by decide) rfl ?_
          rw [q250]
          refine x_A k51_81 (fun _ => rfl) ?_
          refine x_iadd k51_82 ?_
          refine x_top (fun z252 e_z252 => ?_)
          refine x_putI k51_83 (f := 4) rfl (q := 177) (n := 7) (kd := 7) ⟨by decide, rfl⟩ rfl rfl rfl ?_
          refine x_nh (fun s253 e_s253 => ?_)
          have hG_s253 : GI s253 := by rw [e_s253]; exact hG_s246.up (show 0 ≤ z252 ∧ z252 ≤ 160 from (by first | exact x_rbe e_z252 g_z252 rfl rfl | exact x_rb g_z252 rfl rfl | exact ⟨by omega, by omega⟩))
          have f_s253 : FL [1219, 1220, 1221] s0 s253 := by rw [e_s253]; exact f_s246.up (show 1221 ∈ [1219, 1220, 1221] from by decide +kernel)
          have q254 : s253 177 1 = x1000 := by rw [e_s253, x_up_i (by decide)]; exact q247
          have q255 : s253 177 3 = x1002 := by rw [e_s253, x_up_i (by decide)]; exact q248
          have q256 : s253 177 2 = z239 := by rw [e_s253, x_up_i (by decide)]; exact q249
          have q257 : s253 177 4 = z252 := by rw [e_s253]; exact x_up_same
          refine x_A k51_86 (fun _ => rfl) ?_
          refine x_getI k51_87 (f := 2) rfl (q := 177) (n := 7) (kd := 7) ⟨by decide, rfl⟩ (by decide) rfl ?_
          rw [q256]
          refine x_A k51_90 (fun _ => rfl) ?_
          refine x_ic_ne k51_91 (t := 95) rfl (by first | exact x_rbe e_z239 g_z239 rfl rfl | exact x_rb g_z239 rfl rfl | exact ⟨by omega, by omega⟩) ⟨by decide, by decide⟩ (fun c258 => ?_) (fun c258 => ?_)
          · skip
            refine x_ls (l := [(0, .ref 177)]) (show ([0] : List Nat).Nodup from by decide +kernel) ⟨rfl, trivial⟩ ?_
            exact L_C_X6_advance_177_95 s0   (((161 - z252) + 1 : Int)).toNat s253 x1000 z239 x1002 z252 hG_s253 f_s253 (by first | exact x_rb b_x1000 rfl rfl | exact ⟨by omega, by omega⟩) (by first | exact x_rbe e_z239 g_z239 rfl rfl | exact x_rb g_z239 rfl rfl | exact ⟨by omega, by omega⟩) (by first | exact x_rb b_x1002 rfl rfl | exact ⟨by omega, by omega⟩) (by first | exact x_rbe e_z252 g_z252 rfl rfl | exact x_rb g_z252 rfl rfl | exact ⟨by omega, by omega⟩) (by omega) (q254).symm (q256).symm (q255).symm (q257).symm  (by omega)
          · skip
            exact x_vret k51_94 rfl ⟨hG_s253, f_s253, rfl⟩
        · skip
          exact x_vret k51_75 rfl ⟨hG_s246, f_s246, rfl⟩
      · skip
        refine x_A k51_32 (fun _ => rfl) ?_
        refine x_A k51_33 (fun _ => rfl) ?_
        refine x_getI k51_34 (f := 3) rfl (q := 177) (n := 7) (kd := 7) ⟨by decide, rfl⟩ (by decide) rfl ?_
        rw [e_x1002.symm]
        refine x_A k51_37 (fun _ => rfl) ?_
        refine x_iadd k51_38 ?_
        refine x_top (fun z259 e_z259 => ?_)
        refine x_putI k51_39 (f := 3) rfl (q := 177) (n := 7) (kd := 7) ⟨by decide, rfl⟩ rfl rfl rfl ?_
        refine x_nh (fun s260 e_s260 => ?_)
        have hG_s260 : GI s260 := by rw [e_s260]; exact hG.up (show 0 ≤ z259 ∧ z259 ≤ 160 from (by first | exact x_rbe e_z259 g_z259 rfl rfl | exact x_rb g_z259 rfl rfl | exact ⟨by omega, by omega⟩))
        have f_s260 : FL [1219, 1220, 1221] s0 s260 := by rw [e_s260]; exact f.up (show 1220 ∈ [1219, 1220, 1221] from by decide +kernel)
        have q261 : s260 177 1 = x1000 := by rw [e_s260, x_up_i (by decide)]; exact e_x1000.symm
        have q262 : s260 177 2 = x1001 := by rw [e_s260, x_up_i (by decide)]; exact e_x1001.symm
        have q263 : s260 177 4 = x1003 := by rw [e_s260, x_up_i (by decide)]; exact e_x1003.symm
        have q264 : s260 177 3 = z259 := by rw [e_s260]; exact x_up_same
        refine x_goto k51_42 (t := 8) rfl ?_
        refine x_ls (l := [(0, .ref 177)]) (show ([0] : List Nat).Nodup from by decide +kernel) ⟨rfl, trivial⟩ ?_
        exact ih s260 x1000 x1001 z259 x1003 hG_s260 f_s260 (by first | exact x_rb b_x1000 rfl rfl | exact ⟨by omega, by omega⟩) (by first | exact x_rb b_x1001 rfl rfl | exact ⟨by omega, by omega⟩) (by first | exact x_rbe e_z259 g_z259 rfl rfl | exact x_rb g_z259 rfl rfl | exact ⟨by omega, by omega⟩) (by first | exact x_rb b_x1003 rfl rfl | exact ⟨by omega, by omega⟩) (by omega) (q261).symm (q262).symm (q264).symm (q263).symm  (by omega)
theorem C_X6_advance_177 (s0 : xS) (hG0 : GI s0)  : xe none 51 0 (lv_args 0 [.ref 177]) [] s0 0 0 (fun s' v => GI s' ∧ FL [1219, 1220, 1221] s0 s' ∧ v = none) := by
  have f0 : FL [1219, 1220, 1221] s0 s0 := FL.rf
  show xe none 51 0 [(0, .ref 177)] [] s0 0 0 _
  refine x_A k51_0 (fun _ => rfl) ?_
  refine x_A k51_1 (fun _ => rfl) ?_
  refine x_getI k51_2 (f := 4) rfl (q := 177) (n := 7) (kd := 7) ⟨by decide, rfl⟩ (by decide) rfl ?_
  refine x_top (fun z265 e_z265 => ?_)
  have g_z265 : (0 : Int) ≤ s0 177 4 ∧ s0 177 4 ≤ 160 := hG0 177 4
  refine x_putI k51_5 (f := 3) rfl (q := 177) (n := 7) (kd := 7) ⟨by decide, rfl⟩ rfl rfl rfl ?_
  refine x_nh (fun s266 e_s266 => ?_)
  have hG_s266 : GI s266 := by rw [e_s266]; exact hG0.up (show 0 ≤ z265 ∧ z265 ≤ 160 from (by first | exact x_rbe e_z265 g_z265 rfl rfl | exact x_rb g_z265 rfl rfl | exact ⟨by omega, by omega⟩))
  have f_s266 : FL [1219, 1220, 1221] s0 s266 := by rw [e_s266]; exact f0.up (show 1220 ∈ [1219, 1220, 1221] from by decide +kernel)
  have q267 : s266 177 4 = z265 := by rw [e_s266, x_up_i (by decide)]; exact e_z265.symm
  have q268 : s266 177 3 = z265 := by rw [e_s266]; exact x_up_same
  obtain ⟨z269, e_z269⟩ : ∃ z, z = s266 177 1 := ⟨_, rfl⟩
  have g_z269 : (0 : Int) ≤ s266 177 1 ∧ s266 177 1 ≤ 160 := hG_s266 177 1
  obtain ⟨z270, e_z270⟩ : ∃ z, z = s266 177 2 := ⟨_, rfl⟩
  have g_z270 : (0 : Int) ≤ s266 177 2 ∧ s266 177 2 ≤ 3 := hG_s266 177 2
  refine x_ls (l := [(0, .ref 177)]) (show ([0] : List Nat).Nodup from by decide +kernel) ⟨rfl, trivial⟩ ?_
  exact L_C_X6_advance_177_8 s0   (((160 - z265) + 1 : Int)).toNat s266 z269 z270 z265 z265 hG_s266 f_s266 (by first | exact x_rbe e_z269 g_z269 rfl rfl | exact x_rb g_z269 rfl rfl | exact ⟨by omega, by omega⟩) (by first | exact x_rbe e_z270 g_z270 rfl rfl | exact x_rb g_z270 rfl rfl | exact ⟨by omega, by omega⟩) (by first | exact x_rbe e_z265 g_z265 rfl rfl | exact x_rb g_z265 rfl rfl | exact ⟨by omega, by omega⟩) (by first | exact x_rbe e_z265 g_z265 rfl rfl | exact x_rb g_z265 rfl rfl | exact ⟨by omega, by omega⟩) (by omega) (e_z269.symm).symm (e_z270.symm).symm (q268).symm (q267).symm  (by omega)
theorem C_X10_mark_0 (s0 : xS) (hG0 : GI s0) (a : Int) (b_a : (-2147483648) ≤ a ∧ a ≤ 2147483647) : xe none 92 0 (lv_args 0 [.ref 0, vi a]) [] s0 0 0 (fun s' v => GI s' ∧ FL [69, 128, 384, 3276, 3277] s0 s' ∧ ∃ z, v = some (vi z) ∧ ((-1004) ≤ z ∧ z ≤ 39)) := by
  have f0 : FL [69, 128, 384, 3276, 3277] s0 s0 := FL.rf
  show xe none 92 0 [(0, .ref 0), (1, vi a)] [] s0 0 0 _
  refine x_A k92_0 (fun _ => rfl) ?_
  refine x_getR k92_1 (f := 0) rfl (q := 0) (n := 12) (kd := 3) ⟨by decide, rfl⟩ (q2 := 1) (by decide) rfl ?_
  refine x_A k92_4 (fun _ => rfl) ?_
  obtain ⟨z1, e_z1⟩ : ∃ z, z = s0 1 4 := ⟨_, rfl⟩
  have g_z1 : (1 : Int) ≤ s0 1 4 ∧ s0 1 4 ≤ 40 := hG0 1 4
  refine x_callV k92_5 (y := 59) (n := 1) (w0 := 0) (w1 := 1) (as := [vi a]) (rest := []) (by decide +kernel) (q := 1) (nq := 5) (kq := 4) ⟨by decide, rfl⟩ rfl rfl rfl rfl (xe_mono (C_X7_has_1 s0 hG0 a (by first | exact x_rb b_a rfl rfl | exact ⟨by omega, by omega⟩)) ?_)
  rintro s3 v ⟨h_s3, z2, rfl, hz_z2⟩
  rw [h_s3]
  rcases hz_z2 with ⟨c_z2, e_z2⟩ | ⟨c_z2, e_z2⟩
  · rw [e_z2]
    show xe none 92 8 [(0, .ref 0), (1, vi a)] [vi 1] s0 0 0 _
    refine x_if_ne k92_8 (t := 15) rfl ⟨by decide, by decide⟩ (fun c4 => ?_) (fun c4 => by exfalso; omega)
    refine x_A k92_15 (fun _ => rfl) ?_
    refine x_getR k92_16 (f := 0) rfl (q := 0) (n := 12) (kd := 3) ⟨by decide, rfl⟩ (q2 := 1) (by decide) rfl ?_
    refine x_A k92_19 (fun _ => rfl) ?_
    refine x_A k92_20 (fun _ => rfl) ?_
    refine x_getI k92_21 (f := 10) rfl (q := 0) (n := 12) (kd := 3) ⟨by decide, rfl⟩ (by decide) rfl ?_
    refine x_top (fun z5 e_z5 => ?_)
    have g_z5 : (0 : Int) ≤ s0 0 10 ∧ s0 0 10 ≤ 9 := hG0 0 10
    refine x_callV k92_24 (y := 64) (n := 2) (w0 := 0) (w1 := 2) (as := [vi a, vi z5]) (rest := []) (by decide +kernel) (q := 1) (nq := 5) (kq := 4) ⟨by decide, rfl⟩ rfl rfl rfl rfl (xe_mono (C_X7_isThere_1 s0 hG0 a (by first | exact x_rb b_a rfl rfl | exact ⟨by omega, by omega⟩) z5 (by first | exact x_rbe e_z5 g_z5 rfl rfl | exact x_rb g_z5 rfl rfl | exact ⟨by omega, by omega⟩)) ?_)
    rintro s7 v ⟨h_s7, z6, rfl, hz_z6⟩
    rw [h_s7]
    rcases hz_z6 with ⟨c_z6, e_z6⟩ | e_z6
    · rw [e_z6]
      show xe none 92 27 [(0, .ref 0), (1, vi a)] [vi 1] s0 0 0 _
      refine x_if_ne k92_27 (t := 34) rfl ⟨by decide, by decide⟩ (fun c8 => ?_) (fun c8 => by exfalso; omega)
      refine x_A k92_34 (fun _ => rfl) ?_
      refine x_getR k92_35 (f := 9) rfl (q := 0) (n := 12) (kd := 3) ⟨by decide, rfl⟩ (q2 := 243) (by decide) rfl ?_
      refine x_callV k92_38 (y := 73) (n := 0) (w0 := 0) (w1 := 0) (as := []) (rest := []) (by decide +kernel) (q := 243) (nq := 13) (kq := 13) ⟨by decide, rfl⟩ rfl rfl rfl rfl (xe_mono (C_X8_forget_243 s0 hG0) ?_)
      rintro s10 v ⟨hG_s10, t_s10, rfl⟩
      have f_s10 : FL [69, 128, 384, 3276, 3277] s0 s10 := f0.tr t_s10 (by decide +kernel)
      have q11 : s10 1 4 = z1 := (t_s10 1 4 (show 69 ∉ [3276, 3277] from by decide +kernel)).trans e_z1.symm
      have q12 : s10 0 10 = z5 := (t_s10 0 10 (show 11 ∉ [3276, 3277] from by decide +kernel)).trans e_z5.symm
      show xe none 92 41 [(0, .ref 0), (1, vi a)] [] s10 0 0 _
      refine x_A k92_41 (fun _ => rfl) ?_
      refine x_getR k92_42 (f := 0) rfl (q := 0) (n := 12) (kd := 3) ⟨by decide, rfl⟩ (q2 := 1) (by decide) rfl ?_
      refine x_A k92_45 (fun _ => rfl) ?_
      refine x_A k92_46 (fun _ => rfl) ?_
      refine x_getI k92_47 (f := 10) rfl (q := 0) (n := 12) (kd := 3) ⟨by decide, rfl⟩ (by decide) rfl ?_
      rw [q12]
      refine x_callV k92_50 (y := 60) (n := 2) (w0 := 0) (w1 := 2) (as := [vi a, vi z5]) (rest := []) (by decide +kernel) (q := 1) (nq := 5) (kq := 4) ⟨by decide, rfl⟩ rfl rfl rfl rfl (xe_mono (C_X7_add_1 s10 hG_s10 a (by first | exact x_rb b_a rfl rfl | exact ⟨by omega, by omega⟩) z5 (by first | exact x_rbe e_z5 g_z5 rfl rfl | exact x_rb g_z5 rfl rfl | exact ⟨by omega, by omega⟩)) ?_)
      rintro s14 v ⟨hG_s14, t_s14, z13, rfl, g_z13⟩
      have f_s14 : FL [69, 128, 384, 3276, 3277] s0 s14 := f_s10.tr t_s14 (by decide +kernel)
      have q15 : s14 0 10 = z5 := (t_s14 0 10 (show 11 ∉ [69, 128, 384] from by decide +kernel)).trans q12
      show xe none 92 53 [(0, .ref 0), (1, vi a)] [vi z13] s14 0 0 _
      exact x_iret k92_53 rfl ⟨hG_s14, f_s14, z13, rfl, (by first | exact x_rbe e_z13 g_z13 rfl rfl | exact x_rb g_z13 rfl rfl | exact ⟨by omega, by omega⟩)⟩
    · rw [e_z6]
      show xe none 92 27 [(0, .ref 0), (1, vi a)] [vi 0] s0 0 0 _
      refine x_if_ne k92_27 (t := 34) rfl ⟨by decide, by decide⟩ (fun c16 => by exfalso; omega) (fun c16 => ?_)
      refine x_sipush k92_30 (by decide +kernel) ?_
      exact x_iret k92_33 rfl ⟨hG0, f0, (-1003), rfl, ⟨by decide, by decide⟩⟩
  · rw [e_z2]
    show xe none 92 8 [(0, .ref 0), (1, vi a)] [vi 0] s0 0 0 _
    refine x_if_ne k92_8 (t := 15) rfl ⟨by decide, by decide⟩ (fun c17 => by exfalso; omega) (fun c17 => ?_)
    refine x_sipush k92_11 (by decide +kernel) ?_
    exact x_iret k92_14 rfl ⟨hG0, f0, (-1001), rfl, ⟨by decide, by decide⟩⟩
theorem L_C_X11_hang_256_5 (s0 : xS)   : ∀ (n : Nat) (s : xS) (x1 : Int) (x2 : Int) (x3 : Int) (hG : GI s) (f : FL [4352] s0 s) (b_x1 : 0 ≤ x1 ∧ x1 ≤ 39) (b_x2 : (-1) ≤ x2 ∧ x2 ≤ 39) (b_x3 : 0 ≤ x3 ∧ x3 ≤ 10)  (hm : (10 - x3) < (n : Int)), xe none 140 5 [(0, .ref 256), (1, vi x1), (2, vi x2), (3, vi x3)] [] s 0 0 (fun s' v => GI s' ∧ FL [4352] s0 s' ∧ v = none) := by
  intro n
  induction n with
  | zero => intro s x1 x2 x3 hG f b_x1 b_x2 b_x3  hm; exfalso; omega
  | succ n ih =>
    intro s x1 x2 x3 hG f b_x1 b_x2 b_x3  hm
    refine x_A k140_5 (fun _ => rfl) ?_
    refine x_bipush k140_6 (by decide +kernel) ?_
    refine x_ic_ge k140_8 (t := 29) rfl (by first | exact x_rb b_x3 rfl rfl | exact ⟨by omega, by omega⟩) ⟨by decide, by decide⟩ (fun c18 => ?_) (fun c18 => ?_)
    · skip
      exact x_vret k140_29 rfl ⟨hG, f, rfl⟩
    · skip
      refine x_A k140_11 (fun _ => rfl) ?_
      refine x_getR k140_12 (f := 5) rfl (q := 256) (n := 62) (kd := 15) ⟨by decide, rfl⟩ (q2 := 260) (by decide) rfl ?_
      refine x_bipush k140_15 (by decide +kernel) ?_
      refine x_A k140_17 (fun _ => rfl) ?_
      refine x_imul k140_18 ?_
      refine x_top (fun z19 e_z19 => ?_)
      refine x_A k140_19 (fun _ => rfl) ?_
      refine x_iadd k140_20 ?_
      refine x_top (fun z20 e_z20 => ?_)
      refine x_A k140_21 (fun _ => rfl) ?_
      refine x_iast k140_22 (q := 260) (n := 400) ⟨by decide, rfl⟩ (by decide) (by first | exact x_rbel e_z20 g_z20 rfl rfl | exact x_rbl g_z20 rfl rfl | exact ⟨by omega, by omega⟩) ?_
      refine x_nh (fun s21 e_s21 => ?_)
      have hG_s21 : GI s21 := by rw [e_s21]; exact hG.up (show (-1) ≤ x2 ∧ x2 ≤ 39 from (by first | exact x_rb b_x2 rfl rfl | exact ⟨by omega, by omega⟩))
      have f_s21 : FL [4352] s0 s21 := by rw [e_s21]; exact f.up (show 4352 ∈ [4352] from by decide +kernel)
      have q22 : s21 260 z20.toNat = x2 := by rw [e_s21]; exact x_up_same
      refine x_iinc k140_23 (ls' := [(3, vi (x3 + 1)), (0, .ref 256), (1, vi x1), (2, vi x2)]) rfl (by decide) rfl ?_
      refine x_goto k140_26 (t := 5) rfl ?_
      refine x_ls (l := [(0, .ref 256), (1, vi x1), (2, vi x2), (3, vi (x3 + 1))]) (show ([0, 1, 2, 3] : List Nat).Nodup from by decide +kernel) ⟨rfl, rfl, rfl, rfl, trivial⟩ ?_
      exact ih s21 x1 x2 (x3 + 1) hG_s21 f_s21 (by first | exact x_rb b_x1 rfl rfl | exact ⟨by omega, by omega⟩) (by first | exact x_rb b_x2 rfl rfl | exact ⟨by omega, by omega⟩) ⟨by omega, by omega⟩  (by omega)
theorem C_X11_hang_256 (s0 : xS) (hG0 : GI s0) (a : Int) (b_a : 0 ≤ a ∧ a ≤ 39) (b : Int) (b_b : (-1) ≤ b ∧ b ≤ 39) : xe none 140 0 (lv_args 0 [.ref 256, vi a, vi b]) [] s0 0 0 (fun s' v => GI s' ∧ FL [4352] s0 s' ∧ v = none) := by
  have f0 : FL [4352] s0 s0 := FL.rf
  show xe none 140 0 [(0, .ref 256), (1, vi a), (2, vi b)] [] s0 0 0 _
  refine x_A k140_0 (fun _ => rfl) ?_
  refine x_getI k140_1 (f := 0) rfl (q := 256) (n := 62) (kd := 15) ⟨by decide, rfl⟩ (by decide) rfl ?_
  refine x_top (fun z23 e_z23 => ?_)
  have g_z23 : (0 : Int) ≤ s0 256 0 ∧ s0 256 0 ≤ 9 := hG0 256 0
  refine x_istore_n k140_4 (ls' := [(3, vi z23), (0, .ref 256), (1, vi a), (2, vi b)]) (by decide) rfl ?_
  refine x_ls (l := [(0, .ref 256), (1, vi a), (2, vi b), (3, vi z23)]) (show ([0, 1, 2, 3] : List Nat).Nodup from by decide +kernel) ⟨rfl, rfl, rfl, rfl, trivial⟩ ?_
  exact L_C_X11_hang_256_5 s0   (((10 - z23) + 1 : Int)).toNat s0 a b z23 hG0 f0 (by first | exact x_rb b_a rfl rfl | exact ⟨by omega, by omega⟩) (by first | exact x_rb b_b rfl rfl | exact ⟨by omega, by omega⟩) (by first | exact x_rbe e_z23 g_z23 rfl rfl | exact x_rb g_z23 rfl rfl | exact ⟨by omega, by omega⟩)  (by omega)
theorem L_C_X11_doubts_256_5 (s0 : xS)   : ∀ (n : Nat) (s : xS) (x1 : Int) (x2 : Int) (x3 : Int) (x4 : Int) (hG : GI s) (f : FL [] s0 s) (b_x1 : 0 ≤ x1 ∧ x1 ≤ 119) (b_x2 : (-2147483648) ≤ x2 ∧ x2 ≤ 2147483647) (b_x3 : 0 ≤ x3 ∧ x3 ≤ 9) (b_x4 : 0 ≤ x4 ∧ x4 ≤ 8) (r_3_4 : x3 ≤ x4 + 0)  (hm : (8 - x4) < (n : Int)), xe none 156 5 [(0, .ref 256), (1, vi x1), (2, vi x2), (3, vi x3), (4, vi x4)] [] s 0 0 (fun s' v => GI s' ∧ FL [] s0 s' ∧ ∃ z, v = some (vi z) ∧ (0 ≤ z ∧ z ≤ 8)) := by
  intro n
  induction n with
  | zero => intro s x1 x2 x3 x4 hG f b_x1 b_x2 b_x3 b_x4 r_3_4  hm; exfalso; omega
  | succ n ih =>
    intro s x1 x2 x3 x4 hG f b_x1 b_x2 b_x3 b_x4 r_3_4  hm
    refine x_A k156_5 (fun _ => rfl) ?_
    refine x_bipush k156_7 (by decide +kernel) ?_
    refine x_ic_ge k156_9 (t := 48) rfl (by first | exact x_rb b_x4 rfl rfl | exact ⟨by omega, by omega⟩) ⟨by decide, by decide⟩ (fun c101 => ?_) (fun c101 => ?_)
    · skip
      refine x_A k156_48 (fun _ => rfl) ?_
      exact x_iret k156_49 rfl ⟨hG, f, x3, rfl, (by first | exact x_rb b_x3 rfl rfl | exact ⟨by omega, by omega⟩)⟩
    · skip
      refine x_A k156_12 (fun _ => rfl) ?_
      refine x_A k156_13 (fun _ => rfl) ?_
      refine x_getR k156_14 (f := 16) rfl (q := 256) (n := 62) (kd := 15) ⟨by decide, rfl⟩ (q2 := 269) (by decide) rfl ?_
      refine x_bipush k156_17 (by decide +kernel) ?_
      refine x_A k156_19 (fun _ => rfl) ?_
      refine x_imul k156_20 ?_
      refine x_top (fun z102 e_z102 => ?_)
      refine x_A k156_21 (fun _ => rfl) ?_
      refine x_iadd k156_23 ?_
      refine x_top (fun z103 e_z103 => ?_)
      refine x_iald k156_24 (q := 269) (n := 960) ⟨by decide, rfl⟩ (by decide) (by first | exact x_rbel e_z103 g_z103 rfl rfl | exact x_rbl g_z103 rfl rfl | exact ⟨by omega, by omega⟩) ?_
      refine x_top (fun z104 e_z104 => ?_)
      have g_z104 : (-1) ≤ s 269 z103.toNat ∧ s 269 z103.toNat ≤ 9 := hG 269 z103.toNat
      refine x_i2l k156_25 (by first | exact x_rbe e_z104 g_z104 rfl rfl | exact x_rb g_z104 rfl rfl | exact ⟨by omega, by omega⟩) ?_
      refine x_lconst k156_26 (z := 0) (by decide +kernel) ?_
      refine x_A k156_27 (fun _ => rfl) ?_
      refine x_i2l k156_28 (by first | exact x_rb b_x2 rfl rfl | exact ⟨by omega, by omega⟩) ?_
      refine x_callS k156_29 (y := 136) (n := 3) (w0 := 1) (w1 := 6) (as := [vj z104, vj 0, vj x2]) (rest := [vi x3]) (by decide +kernel) rfl rfl rfl rfl (xe_mono (C_X11_in s hG z104 ⟨by omega, by omega⟩ 0 ⟨by omega, by omega⟩ x2 ⟨by omega, by omega⟩) ?_)
      rintro s106 v ⟨h_s106, z105, rfl, hz_z105⟩
      rw [h_s106]
      rcases hz_z105 with ⟨c_z105, e_z105⟩ | ⟨c_z105, e_z105⟩
      · rw [e_z105]
        show xe none 156 32 [(0, .ref 256), (1, vi x1), (2, vi x2), (3, vi x3), (4, vi x4)] [vi 1, vi x3] s 0 0 _
        refine x_if_eq k156_32 (t := 39) rfl ⟨by decide, by decide⟩ (fun c107 => by exfalso; omega) (fun c107 => ?_)
        refine x_A k156_35 (fun _ => rfl) ?_
        refine x_goto k156_36 (t := 40) rfl ?_
        refine x_iadd k156_40 ?_
        refine x_top (fun z108 e_z108 => ?_)
        refine x_istore_n k156_41 (ls' := [(3, vi z108), (0, .ref 256), (1, vi x1), (2, vi x2), (4, vi x4)]) (by decide) rfl ?_
        refine x_iinc k156_42 (ls' := [(4, vi (x4 + 1)), (3, vi z108), (0, .ref 256), (1, vi x1), (2, vi x2)]) rfl (by decide) rfl ?_
        refine x_goto k156_45 (t := 5) rfl ?_
        refine x_ls (l := [(0, .ref 256), (1, vi x1), (2, vi x2), (3, vi z108), (4, vi (x4 + 1))]) (show ([0, 1, 2, 3, 4] : List Nat).Nodup from by decide +kernel) ⟨rfl, rfl, rfl, rfl, rfl, trivial⟩ ?_
        exact ih s x1 x2 z108 (x4 + 1) hG f (by first | exact x_rb b_x1 rfl rfl | exact ⟨by omega, by omega⟩) (by first | exact x_rb b_x2 rfl rfl | exact ⟨by omega, by omega⟩) (by first | exact x_rbe e_z108 g_z108 rfl rfl | exact x_rb g_z108 rfl rfl | exact ⟨by omega, by omega⟩) ⟨by omega, by omega⟩ (by omega)  (by omega)
      · rw [e_z105]
        show xe none 156 32 [(0, .ref 256), (1, vi x1), (2, vi x2), (3, vi x3), (4, vi x4)] [vi 0, vi x3] s 0 0 _
        refine x_if_eq k156_32 (t := 39) rfl ⟨by decide, by decide⟩ (fun c109 => ?_) (fun c109 => by exfalso; omega)
        refine x_A k156_39 (fun _ => rfl) ?_
        refine x_iadd k156_40 ?_
        refine x_top (fun z110 e_z110 => ?_)
        refine x_istore_n k156_41 (ls' := [(3, vi z110), (0, .ref 256), (1, vi x1), (2, vi x2), (4, vi x4)]) (by decide) rfl ?_
        refine x_iinc k156_42 (ls' := [(4, vi (x4 + 1)), (3, vi z110), (0, .ref 256), (1, vi x1), (2, vi x2)]) rfl (by decide) rfl ?_
        refine x_goto k156_45 (t := 5) rfl ?_
        refine x_ls (l := [(0, .ref 256), (1, vi x1), (2, vi x2), (3, vi z110), (4, vi (x4 + 1))]) (show ([0, 1, 2, 3, 4] : List Nat).Nodup from by decide +kernel) ⟨rfl, rfl, rfl, rfl, rfl, trivial⟩ ?_
        exact ih s x1 x2 z110 (x4 + 1) hG f (by first | exact x_rb b_x1 rfl rfl | exact ⟨by omega, by omega⟩) (by first | exact x_rb b_x2 rfl rfl | exact ⟨by omega, by omega⟩) (by first | exact x_rbe e_z110 g_z110 rfl rfl | exact x_rb g_z110 rfl rfl | exact ⟨by omega, by omega⟩) ⟨by omega, by omega⟩ (by omega)  (by omega)
theorem C_X11_doubts_256 (s0 : xS) (hG0 : GI s0) (a : Int) (b_a : 0 ≤ a ∧ a ≤ 119) (b : Int) (b_b : (-2147483648) ≤ b ∧ b ≤ 2147483647) : xe none 156 0 (lv_args 0 [.ref 256, vi a, vi b]) [] s0 0 0 (fun s' v => GI s' ∧ FL [] s0 s' ∧ ∃ z, v = some (vi z) ∧ (0 ≤ z ∧ z ≤ 8)) := by
  have f0 : FL [] s0 s0 := FL.rf
  show xe none 156 0 [(0, .ref 256), (1, vi a), (2, vi b)] [] s0 0 0 _
  refine x_A k156_0 (fun _ => rfl) ?_
  refine x_istore_n k156_1 (ls' := [(3, vi 0), (0, .ref 256), (1, vi a), (2, vi b)]) (by decide) rfl ?_
  refine x_A k156_2 (fun _ => rfl) ?_
  refine x_istore k156_3 (ls' := [(4, vi 0), (3, vi 0), (0, .ref 256), (1, vi a), (2, vi b)]) (by decide) rfl ?_
  refine x_ls (l := [(0, .ref 256), (1, vi a), (2, vi b), (3, vi 0), (4, vi 0)]) (show ([0, 1, 2, 3, 4] : List Nat).Nodup from by decide +kernel) ⟨rfl, rfl, rfl, rfl, rfl, trivial⟩ ?_
  exact L_C_X11_doubts_256_5 s0   (((8 - 0) + 1 : Int)).toNat s0 a b 0 0 hG0 f0 (by first | exact x_rb b_a rfl rfl | exact ⟨by omega, by omega⟩) (by first | exact x_rb b_b rfl rfl | exact ⟨by omega, by omega⟩) ⟨by decide, by decide⟩ ⟨by decide, by decide⟩ (by omega)  (by omega)
theorem L_C_X11_leadsMany_256_5 (s0 : xS)   : ∀ (n : Nat) (s : xS) (x1 : Int) (x2 : Int) (x3 : Int) (x4 : Int) (hG : GI s) (f : FL [] s0 s) (b_x1 : 0 ≤ x1 ∧ x1 ≤ 3) (b_x2 : 0 ≤ x2 ∧ x2 ≤ 99) (b_x3 : 0 ≤ x3 ∧ x3 ≤ 64) (b_x4 : 0 ≤ x4 ∧ x4 ≤ 60) (r_3_4 : x3 ≤ x4 + 0)  (hm : (60 - x4) < (n : Int)), xe none 191 5 [(0, .ref 256), (1, vi x1), (2, vi x2), (3, vi x3), (4, vi x4)] [] s 0 0 (fun s' v => GI s' ∧ FL [] s0 s' ∧ ∃ z, v = some (vi z) ∧ (0 ≤ z ∧ z ≤ 60)) := by
  intro n
  induction n with
  | zero => intro s x1 x2 x3 x4 hG f b_x1 b_x2 b_x3 b_x4 r_3_4  hm; exfalso; omega
  | succ n ih =>
    intro s x1 x2 x3 x4 hG f b_x1 b_x2 b_x3 b_x4 r_3_4  hm
    refine x_A k191_5 (fun _ => rfl) ?_
    refine x_A k191_7 (fun _ => rfl) ?_
    refine x_getI k191_8 (f := 40) rfl (q := 256) (n := 62) (kd := 15) ⟨by decide, rfl⟩ (by decide) rfl ?_
    refine x_top (fun z129 e_z129 => ?_)
    have g_z129 : (0 : Int) ≤ s 256 40 ∧ s 256 40 ≤ 60 := hG 256 40
    refine x_ic_ge k191_11 (t := 44) rfl (by first | exact x_rb b_x4 rfl rfl | exact ⟨by omega, by omega⟩) (by first | exact x_rbe e_z129 g_z129 rfl rfl | exact x_rb g_z129 rfl rfl | exact ⟨by omega, by omega⟩) (fun c130 => ?_) (fun c130 => ?_)
    · skip
      refine x_A k191_44 (fun _ => rfl) ?_
      exact x_iret k191_45 rfl ⟨hG, f, x3, rfl, (by first | exact x_rb b_x3 rfl rfl | exact ⟨by omega, by omega⟩)⟩
    · skip
      refine x_A k191_14 (fun _ => rfl) ?_
      refine x_A k191_15 (fun _ => rfl) ?_
      refine x_getR k191_16 (f := 41) rfl (q := 256) (n := 62) (kd := 15) ⟨by decide, rfl⟩ (q2 := 284) (by decide) rfl ?_
      refine x_A k191_19 (fun _ => rfl) ?_
      refine x_iald k191_21 (q := 284) (n := 60) ⟨by decide, rfl⟩ (by decide) (by first | exact x_rbl b_x4 rfl rfl | exact ⟨by omega, by omega⟩) ?_
      refine x_top (fun z131 e_z131 => ?_)
      have g_z131 : (0 : Int) ≤ s 284 x4.toNat ∧ s 284 x4.toNat ≤ 399 := hG 284 x4.toNat
      refine x_bipush k191_22 (by decide +kernel) ?_
      refine x_A k191_24 (fun _ => rfl) ?_
      refine x_imul k191_25 ?_
      refine x_top (fun z132 e_z132 => ?_)
      refine x_A k191_26 (fun _ => rfl) ?_
      refine x_iadd k191_27 ?_
      refine x_top (fun z133 e_z133 => ?_)
      refine x_ic_ne k191_28 (t := 35) rfl (by first | exact x_rbe e_z131 g_z131 rfl rfl | exact x_rb g_z131 rfl rfl | exact ⟨by omega, by omega⟩) (by first | exact x_rbe e_z133 g_z133 rfl rfl | exact x_rb g_z133 rfl rfl | exact ⟨by omega, by omega⟩) (fun c134 => ?_) (fun c134 => ?_)
      · skip
        refine x_A k191_35 (fun _ => rfl) ?_
        refine x_iadd k191_36 ?_
        refine x_top (fun z135 e_z135 => ?_)
        refine x_istore_n k191_37 (ls' := [(3, vi z135), (0, .ref 256), (1, vi x1), (2, vi x2), (4, vi x4)]) (by decide) rfl ?_
        refine x_iinc k191_38 (ls' := [(4, vi (x4 + 1)), (3, vi z135), (0, .ref 256), (1, vi x1), (2, vi x2)]) rfl (by decide) rfl ?_
        refine x_goto k191_41 (t := 5) rfl ?_
        refine x_ls (l := [(0, .ref 256), (1, vi x1), (2, vi x2), (3, vi z135), (4, vi (x4 + 1))]) (show ([0, 1, 2, 3, 4] : List Nat).Nodup from by decide +kernel) ⟨rfl, rfl, rfl, rfl, rfl, trivial⟩ ?_
        exact ih s x1 x2 z135 (x4 + 1) hG f (by first | exact x_rb b_x1 rfl rfl | exact ⟨by omega, by omega⟩) (by first | exact x_rb b_x2 rfl rfl | exact ⟨by omega, by omega⟩) (by first | exact x_rbe e_z135 g_z135 rfl rfl | exact x_rb g_z135 rfl rfl | exact ⟨by omega, by omega⟩) ⟨by omega, by omega⟩ (by omega)  (by omega)
      · skip
        refine x_A k191_31 (fun _ => rfl) ?_
        refine x_goto k191_32 (t := 36) rfl ?_
        refine x_iadd k191_36 ?_
        refine x_top (fun z136 e_z136 => ?_)
        refine x_istore_n k191_37 (ls' := [(3, vi z136), (0, .ref 256), (1, vi x1), (2, vi x2), (4, vi x4)]) (by decide) rfl ?_
        refine x_iinc k191_38 (ls' := [(4, vi (x4 + 1)), (3, vi z136), (0, .ref 256), (1, vi x1), (2, vi x2)]) rfl (by decide) rfl ?_
        refine x_goto k191_41 (t := 5) rfl ?_
        refine x_ls (l := [(0, .ref 256), (1, vi x1), (2, vi x2), (3, vi z136), (4, vi (x4 + 1))]) (show ([0, 1, 2, 3, 4] : List Nat).Nodup from by decide +kernel) ⟨rfl, rfl, rfl, rfl, rfl, trivial⟩ ?_
        exact ih s x1 x2 z136 (x4 + 1) hG f (by first | exact x_rb b_x1 rfl rfl | exact ⟨by omega, by omega⟩) (by first | exact x_rb b_x2 rfl rfl | exact ⟨by omega, by omega⟩) (by first | exact x_rbe e_z136 g_z136 rfl rfl | exact x_rb g_z136 rfl rfl | exact ⟨by omega, by omega⟩) ⟨by omega, by omega⟩ (by omega)  (by omega)
theorem C_X11_leadsMany_256 (s0 : xS) (hG0 : GI s0) (a : Int) (b_a : 0 ≤ a ∧ a ≤ 3) (b : Int) (b_b : 0 ≤ b ∧ b ≤ 99) : xe none 191 0 (lv_args 0 [.ref 256, vi a, vi b]) [] s0 0 0 (fun s' v => GI s' ∧ FL [] s0 s' ∧ ∃ z, v = some (vi z) ∧ (0 ≤ z ∧ z ≤ 60)) := by
  have f0 : FL [] s0 s0 := FL.rf
  show xe none 191 0 [(0, .ref 256), (1, vi a), (2, vi b)] [] s0 0 0 _
  refine x_A k191_0 (fun _ => rfl) ?_
  refine x_istore_n k191_1 (ls' := [(3, vi 0), (0, .ref 256), (1, vi a), (2, vi b)]) (by decide) rfl ?_
  refine x_A k191_2 (fun _ => rfl) ?_
  refine x_istore k191_3 (ls' := [(4, vi 0), (3, vi 0), (0, .ref 256), (1, vi a), (2, vi b)]) (by decide) rfl ?_
  refine x_ls (l := [(0, .ref 256), (1, vi a), (2, vi b), (3, vi 0), (4, vi 0)]) (show ([0, 1, 2, 3, 4] : List Nat).Nodup from by decide +kernel) ⟨rfl, rfl, rfl, rfl, rfl, trivial⟩ ?_
  exact L_C_X11_leadsMany_256_5 s0   (((60 - 0) + 1 : Int)).toNat s0 a b 0 0 hG0 f0 (by first | exact x_rb b_a rfl rfl | exact ⟨by omega, by omega⟩) (by first | exact x_rb b_b rfl rfl | exact ⟨by omega, by omega⟩) ⟨by decide, by decide⟩ ⟨by decide, by decide⟩ (by omega)  (by omega)
theorem C_X11_shows_256 (s0 : xS) (hG0 : GI s0) (a : Int) (b_a : 0 ≤ a ∧ a ≤ 39) (b : Int) (b_b : (-2147483648) ≤ b ∧ b ≤ 2147483647) : xe none 169 0 (lv_args 0 [.ref 256, vi a, vi b]) [] s0 0 0 (fun s' v => GI s' ∧ FL [] s0 s' ∧ ∃ z, v = some (vi z) ∧ (0 ≤ z ∧ z ≤ 1)) := by
  have f0 : FL [] s0 s0 := FL.rf
  show xe none 169 0 [(0, .ref 256), (1, vi a), (2, vi b)] [] s0 0 0 _
  refine x_A k169_0 (fun _ => rfl) ?_
  refine x_bipush k169_1 (by decide +kernel) ?_
  refine x_ic_ge k169_3 (t := 25) rfl (by first | exact x_rb b_b rfl rfl | exact ⟨by omega, by omega⟩) ⟨by decide, by decide⟩ (fun c1 => ?_) (fun c1 => ?_)
  · skip
    refine x_A k169_25 (fun _ => rfl) ?_
    exact x_zret k169_26 rfl ⟨by omega, by omega⟩ ⟨hG0, f0, 0, rfl, ⟨by decide, by decide⟩⟩
  · skip
    refine x_A k169_6 (fun _ => rfl) ?_
    refine x_getR k169_7 (f := 32) rfl (q := 256) (n := 62) (kd := 15) ⟨by decide, rfl⟩ (q2 := 282) (by decide) rfl ?_
    refine x_A k169_10 (fun _ => rfl) ?_
    refine x_lald k169_11 (q := 282) (n := 40) ⟨by decide, rfl⟩ (by decide) (by first | exact x_rbl b_a rfl rfl | exact ⟨by omega, by omega⟩) ?_
    refine x_topL (fun z2 e_z2 => ?_)
    have b_z2 : in64 z2 := by rw [e_z2]; exact hG0 282 a.toNat
    refine x_A k169_12 (fun _ => rfl) ?_
    refine x_lshr_any k169_13 (fun z3 b_z3 => ?_)
    refine x_lconst k169_14 (z := 1) (by decide +kernel) ?_
    refine x_land_mask k169_15 ⟨by omega, by omega⟩ (fun z4 g_z4 => ?_)
    refine x_lconst k169_16 (z := 1) (by decide +kernel) ?_
    refine x_lc_ne k169_17 k169_18 (t := 25) rfl ⟨by omega, by omega⟩ ⟨by omega, by omega⟩ (fun c5 => ?_) (fun c5 => ?_)
    · skip
      refine x_A k169_25 (fun _ => rfl) ?_
      exact x_zret k169_26 rfl ⟨by omega, by omega⟩ ⟨hG0, f0, 0, rfl, ⟨by decide, by decide⟩⟩
    · skip
      refine x_A k169_21 (fun _ => rfl) ?_
      refine x_goto k169_22 (t := 26) rfl ?_
      exact x_zret k169_26 rfl ⟨by omega, by omega⟩ ⟨hG0, f0, 1, rfl, ⟨by decide, by decide⟩⟩
