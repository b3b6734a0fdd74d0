set_option maxHeartbeats 8000000 in
theorem L_V_X8_lookIn_243_28 (s0 : xS) (hJ0 : J s0) (a : Int) (b_a : 0 ≤ a ∧ a ≤ 9) (pR : R1 s0)  : ∀ (n : Nat) (s : xS) (x1 : Int) (x2 : Int) (hG : GI s) (f : FL [3329, 3334, 3335, 3336, 3392, 3456, 3520, 3584, 3276, 3648, 3712, 3776, 3840, 3904, 3968, 3277, 4032] s0 s) (b_x1 : 0 ≤ x1 ∧ x1 ≤ 9) (b_x2 : 0 ≤ x2 ∧ x2 ≤ 120) (i_VCj : VCj s)  (hm : (120 - x2) < (n : Int)), xe none 76 28 [(0, .ref 243), (1, vi x1), (2, vi x2)] [] s 0 0 (fun s' v => GI s' ∧ FL [3329, 3334, 3335, 3336, 3392, 3456, 3520, 3584, 3276, 3648, 3712, 3776, 3840, 3904, 3968, 3277, 4032] s0 s' ∧ v = none ∧ VCj s') := by
  intro n
  induction n with
  | zero => intro s x1 x2 hG f b_x1 b_x2 i_VCj  hm; exfalso; omega
  | succ n ih =>
    intro s x1 x2 hG f b_x1 b_x2 i_VCj  hm
    refine x_A k76_28 (fun _ => rfl) ?_
    refine x_A k76_29 (fun _ => rfl) ?_
    refine x_getR k76_30 (f := 1) rfl (q := 243) (n := 13) (kd := 13) ⟨by decide, rfl⟩ (q2 := 50) (by decide) rfl ?_
    refine x_getI k76_33 (f := 6) rfl (q := 50) (n := 7) (kd := 6) ⟨by decide, rfl⟩ (by decide) rfl ?_
    refine x_top (fun z549 e_z549 => ?_)
    have g_z549 : (0 : Int) ≤ s 50 6 ∧ s 50 6 ≤ 120 := hG 50 6
    refine x_ic_ge k76_36 (t := 91) rfl (by first | exact x_rb b_x2 rfl rfl | exact ⟨by omega, by omega⟩) (by first | exact x_rbe e_z549 g_z549 rfl rfl | exact x_rb g_z549 rfl rfl | exact ⟨by omega, by omega⟩) (fun c550 => ?_) (fun c550 => ?_)
    · skip
      exact x_vret k76_91 rfl ⟨hG, f, rfl, i_VCj⟩
    · skip
      refine x_A k76_39 (fun _ => rfl) ?_
      refine x_A k76_40 (fun _ => rfl) ?_
      refine x_callV k76_41 (y := 77) (n := 1) (w0 := 0) (w1 := 1) (as := [vi x2]) (rest := []) (by decide +kernel) (q := 243) (nq := 13) (kq := 13) ⟨by decide, rfl⟩ rfl rfl rfl rfl (xe_mono (C_X8_setMeaning_243 s hG x2 (by first | exact x_rb b_x2 rfl rfl | exact ⟨by omega, by omega⟩)) ?_)
      rintro s552 v ⟨hG_s552, t_s552, rfl⟩
      have f_s552 : FL [3329, 3334, 3335, 3336, 3392, 3456, 3520, 3584, 3276, 3648, 3712, 3776, 3840, 3904, 3968, 3277, 4032] s0 s552 := f.tr t_s552 (by decide)
      have q553 : s552 50 6 = z549 := (t_s552 50 6 (show 711 ∉ [3904, 3968] from by decide)).trans e_z549.symm
      have VCj_s552 : VCj s552 := VCj.fl i_VCj hG t_s552 (by decide)
      show xe none 76 44 [(0, .ref 243), (1, vi x1), (2, vi x2)] [] s552 0 0 _
      refine x_A k76_44 (fun _ => rfl) ?_
      refine x_getR k76_45 (f := 8) rfl (q := 243) (n := 13) (kd := 13) ⟨by decide, rfl⟩ (q2 := 253) (by decide) rfl ?_
      refine x_A k76_48 (fun _ => rfl) ?_
      refine x_iald k76_49 (q := 253) (n := 120) ⟨by decide, rfl⟩ (by decide) (by first | exact x_rbl b_x2 rfl rfl | exact ⟨by omega, by omega⟩) ?_
      refine x_top (fun z554 e_z554 => ?_)
      have g_z554 : (-1) ≤ s552 253 x2.toNat ∧ s552 253 x2.toNat ≤ 39 := hG_s552 253 x2.toNat
      refine x_A k76_50 (fun _ => rfl) ?_
      refine x_ic_eq k76_51 (t := 85) rfl (by first | exact x_rbe e_z554 g_z554 rfl rfl | exact x_rb g_z554 rfl rfl | exact ⟨by omega, by omega⟩) ⟨by decide, by decide⟩ (fun c555 => ?_) (fun c555 => ?_)
      · skip
        refine x_iinc k76_85 (ls' := [(2, vi (x2 + 1)), (0, .ref 243), (1, vi x1)]) rfl (by decide) rfl ?_
        refine x_goto k76_88 (t := 28) rfl ?_
        refine x_ls (l := [(0, .ref 243), (1, vi x1), (2, vi (x2 + 1))]) (show ([0, 1, 2] : List Nat).Nodup from by decide) ⟨rfl, rfl, rfl, trivial⟩ ?_
        exact ih s552 x1 (x2 + 1) hG_s552 f_s552 (by first | exact x_rb b_x1 rfl rfl | exact ⟨by omega, by omega⟩) ⟨by omega, by omega⟩ VCj_s552  (by omega)
      · skip
        refine x_A k76_54 (fun _ => rfl) ?_
        refine x_getR k76_55 (f := 10) rfl (q := 243) (n := 13) (kd := 13) ⟨by decide, rfl⟩ (q2 := 255) (by decide) rfl ?_
        refine x_A k76_58 (fun _ => rfl) ?_
        refine x_getR k76_59 (f := 1) rfl (q := 243) (n := 13) (kd := 13) ⟨by decide, rfl⟩ (q2 := 50) (by decide) rfl ?_
        refine x_getR k76_62 (f := 0) rfl (q := 50) (n := 7) (kd := 6) ⟨by decide, rfl⟩ (q2 := 51) (by decide) rfl ?_
        refine x_A k76_65 (fun _ => rfl) ?_
        refine x_iald k76_66 (q := 51) (n := 120) ⟨by decide, rfl⟩ (by decide) (by first | exact x_rbl b_x2 rfl rfl | exact ⟨by omega, by omega⟩) ?_
        refine x_top (fun z556 e_z556 => ?_)
        have g_z556 : (0 : Int) ≤ s552 51 x2.toNat ∧ s552 51 x2.toNat ≤ 39 := hG_s552 51 x2.toNat
        refine x_A k76_67 (fun _ => rfl) ?_
        refine x_lald k76_68 (q := 255) (n := 40) ⟨by decide, rfl⟩ (by decide) (by first | exact x_rbel e_z556 g_z556 rfl rfl | exact x_rbl g_z556 rfl rfl | exact ⟨by omega, by omega⟩) ?_
        refine x_topL (fun z557 e_z557 => ?_)
        have b_z557 : in64 z557 := by rw [e_z557]; exact hG_s552 255 z556.toNat
        refine x_A k76_69 (fun _ => rfl) ?_
        refine x_getR k76_70 (f := 0) rfl (q := 243) (n := 13) (kd := 13) ⟨by decide, rfl⟩ (q2 := 1) (by decide) rfl ?_
        refine x_A k76_73 (fun _ => rfl) ?_
        refine x_getR k76_74 (f := 8) rfl (q := 243) (n := 13) (kd := 13) ⟨by decide, rfl⟩ (q2 := 253) (by decide) rfl ?_
        refine x_A k76_77 (fun _ => rfl) ?_
        refine x_iald k76_78 (q := 253) (n := 120) ⟨by decide, rfl⟩ (by decide) (by first | exact x_rbl b_x2 rfl rfl | exact ⟨by omega, by omega⟩) ?_
        rw [e_z554.symm]
        refine x_A k76_79 (fun _ => rfl) ?_
        refine x_callV k76_80 (y := 65) (n := 2) (w0 := 4) (w1 := 2) (as := [vi z554, vi x1]) (rest := [vj z557, vi z556, .ref 255]) (by decide +kernel) (q := 1) (nq := 5) (kq := 4) ⟨by decide, rfl⟩ rfl rfl rfl rfl (xe_mono (E_X7_pathUp_1 s552 hG_s552 z554 (by first | exact x_rbe e_z554 g_z554 rfl rfl | exact x_rb g_z554 rfl rfl | exact ⟨by omega, by omega⟩) x1 (by first | exact x_rb b_x1 rfl rfl | exact ⟨by omega, by omega⟩)) ?_)
        rintro s559 v ⟨-, t_s559, z558, rfl, b_z558, xp_z558⟩
        rw [t_s559.nil]
        try rw [t_s559.nil] at xp_z558
        show xe none 76 83 [(0, .ref 243), (1, vi x1), (2, vi x2)] [vj z558, vj z557, vi z556, .ref 255] s552 0 0 _
        refine x_lor_any k76_83 (fun z560 b_z560 => ?_)
        refine x_last k76_84 (q := 255) (n := 40) ⟨by decide, rfl⟩ (by decide) (by first | exact x_rbel e_z556 g_z556 rfl rfl | exact x_rbl g_z556 rfl rfl | exact ⟨by omega, by omega⟩) ?_
        refine x_nh (fun s561 e_s561 => ?_)
        have hG_s561 : GI s561 := by rw [e_s561]; exact hG_s552.up (show in64 z560 from b_z560)
        have f_s561 : FL [3329, 3334, 3335, 3336, 3392, 3456, 3520, 3584, 3276, 3648, 3712, 3776, 3840, 3904, 3968, 3277, 4032] s0 s561 := by rw [e_s561]; exact f_s552.up (show 4032 ∈ [3329, 3334, 3335, 3336, 3392, 3456, 3520, 3584, 3276, 3648, 3712, 3776, 3840, 3904, 3968, 3277, 4032] from by decide)
        have q562 : s561 50 6 = z549 := by rw [e_s561, x_up_q (by decide)]; exact q553
        have q563 : s561 253 x2.toNat = z554 := by rw [e_s561, x_up_q (by omega)]; exact e_z554.symm
        have q564 : s561 51 x2.toNat = z556 := by rw [e_s561, x_up_q (by omega)]; exact e_z556.symm
        have VCj_s561 : VCj s561 := by rw [e_s561]; exact VCj.up hG_s552 VCj_s552 (show 4032 ∉ LVJ from by decide)
        refine x_iinc k76_85 (ls' := [(2, vi (x2 + 1)), (0, .ref 243), (1, vi x1)]) rfl (by decide) rfl ?_
        refine x_goto k76_88 (t := 28) rfl ?_
        refine x_ls (l := [(0, .ref 243), (1, vi x1), (2, vi (x2 + 1))]) (show ([0, 1, 2] : List Nat).Nodup from by decide) ⟨rfl, rfl, rfl, trivial⟩ ?_
        exact ih s561 x1 (x2 + 1) hG_s561 f_s561 (by first | exact x_rb b_x1 rfl rfl | exact ⟨by omega, by omega⟩) ⟨by omega, by omega⟩ VCj_s561  (by omega)
set_option maxHeartbeats 8000000 in
theorem V_X8_lookIn_243 (s0 : xS) (hG0 : GI s0) (hJ0 : J s0) (a : Int) (b_a : 0 ≤ a ∧ a ≤ 9) (pR : R1 s0) (i0_VCj : VCj s0) : xe none 76 0 (lv_args 0 [.ref 243, vi a]) [] s0 0 0 (fun s' v => GI s' ∧ FL [3329, 3334, 3335, 3336, 3392, 3456, 3520, 3584, 3276, 3648, 3712, 3776, 3840, 3904, 3968, 3277, 4032] s0 s' ∧ v = none ∧ VCj s') := by
  have f0 : FL [3329, 3334, 3335, 3336, 3392, 3456, 3520, 3584, 3276, 3648, 3712, 3776, 3840, 3904, 3968, 3277, 4032] s0 s0 := FL.rf
  show xe none 76 0 [(0, .ref 243), (1, vi a)] [] s0 0 0 _
  refine x_A k76_0 (fun _ => rfl) ?_
  refine x_getI k76_1 (f := 12) rfl (q := 243) (n := 13) (kd := 13) ⟨by decide, rfl⟩ (by decide) rfl ?_
  refine x_top (fun z565 e_z565 => ?_)
  have g_z565 : (-1) ≤ s0 243 12 ∧ s0 243 12 ≤ 9 := hG0 243 12
  refine x_A k76_4 (fun _ => rfl) ?_
  refine x_ic_ne k76_5 (t := 9) rfl (by first | exact x_rbe e_z565 g_z565 rfl rfl | exact x_rb g_z565 rfl rfl | exact ⟨by omega, by omega⟩) (by first | exact x_rb b_a rfl rfl | exact ⟨by omega, by omega⟩) (fun c566 => ?_) (fun c566 => ?_)
  · skip
    refine x_A k76_9 (fun _ => rfl) ?_
    refine x_A k76_10 (fun _ => rfl) ?_
    refine x_putI k76_11 (f := 12) rfl (q := 243) (n := 13) (kd := 13) ⟨by decide, rfl⟩ rfl rfl rfl ?_
    refine x_nh (fun s567 e_s567 => ?_)
    have hG_s567 : GI s567 := by rw [e_s567]; exact hG0.up (show (-1) ≤ a ∧ a ≤ 9 from ⟨by omega, by omega⟩)
    have f_s567 : FL [3329, 3334, 3335, 3336, 3392, 3456, 3520, 3584, 3276, 3648, 3712, 3776, 3840, 3904, 3968, 3277, 4032] s0 s567 := by rw [e_s567]; exact f0.up (show 3277 ∈ [3329, 3334, 3335, 3336, 3392, 3456, 3520, 3584, 3276, 3648, 3712, 3776, 3840, 3904, 3968, 3277, 4032] from by decide)
    have q568 : s567 243 12 = a := by rw [e_s567]; exact x_up_same
    have VCj_s567 : VCj s567 := by rw [e_s567]; exact VCj.up hG0 i0_VCj (show 3277 ∉ LVJ from by decide)
    refine x_A k76_14 (fun _ => rfl) ?_
    refine x_callV k76_15 (y := 74) (n := 0) (w0 := 0) (w1 := 0) (as := []) (rest := []) (by decide +kernel) (q := 243) (nq := 13) (kq := 13) ⟨by decide, rfl⟩ rfl rfl rfl rfl (xe_mono (E_X8_judge_243 s567 hG_s567 (hJ0.fl f_s567 (by decide)) (pR.fl f_s567 (by decide)) VCj_s567) ?_)
    rintro s570 v ⟨hG_s570, t_s570, rfl, xp_z569⟩
    have f_s570 : FL [3329, 3334, 3335, 3336, 3392, 3456, 3520, 3584, 3276, 3648, 3712, 3776, 3840, 3904, 3968, 3277, 4032] s0 s570 := f_s567.tr t_s570 (by decide)
    have q571 : s570 243 12 = a := (t_s570 243 12 (show 3277 ∉ [3329, 3334, 3335, 3336, 3392, 3456, 3520, 3584, 3276, 3648, 3712, 3776, 3840] from by decide)).trans q568
    obtain ⟨z572, e_z572⟩ : ∃ z, z = s570 243 11 := ⟨_, rfl⟩
    have g_z572 : (0 : Int) ≤ s570 243 11 ∧ s570 243 11 ≤ 1 := hG_s570 243 11
    show xe none 76 18 [(0, .ref 243), (1, vi a)] [] s570 0 0 _
    have VCj_d : VCj s570 := VCj.judge hG_s567 t_s570 (by decide) xp_z569.1
    refine x_A k76_18 (fun _ => rfl) ?_
    refine x_getR k76_19 (f := 10) rfl (q := 243) (n := 13) (kd := 13) ⟨by decide, rfl⟩ (q2 := 255) (by decide) rfl ?_
    refine x_lconst k76_22 (z := 0) (by decide +kernel) ?_
    refine x_callS k76_23 (y := 228) (n := 2) (w0 := 0) (w1 := 3) (as := [.ref 255, vj 0]) (rest := []) (by decide +kernel) rfl rfl rfl rfl (xe_mono (C_J7_fill_d0a16_255 s570 hG_s570 0 ⟨by omega, by omega⟩) ?_)
    rintro s574 v ⟨hG_s574, t_s574, rfl⟩
    have f_s574 : FL [3329, 3334, 3335, 3336, 3392, 3456, 3520, 3584, 3276, 3648, 3712, 3776, 3840, 3904, 3968, 3277, 4032] s0 s574 := f_s570.tr t_s574 (by decide)
    have q575 : s574 243 12 = a := (t_s574 243 12 (show 3277 ∉ [4032] from by decide)).trans q571
    have q576 : s574 243 11 = z572 := (t_s574 243 11 (show 3276 ∉ [4032] from by decide)).trans e_z572.symm
    have VCj_s574 : VCj s574 := VCj.fl VCj_d hG_s570 t_s574 (by decide)
    show xe none 76 26 [(0, .ref 243), (1, vi a)] [] s574 0 0 _
    refine x_A k76_26 (fun _ => rfl) ?_
    refine x_istore_n k76_27 (ls' := [(2, vi 0), (0, .ref 243), (1, vi a)]) (by decide) rfl ?_
    refine x_ls (l := [(0, .ref 243), (1, vi a), (2, vi 0)]) (show ([0, 1, 2] : List Nat).Nodup from by decide) ⟨rfl, rfl, rfl, trivial⟩ ?_
    exact L_V_X8_lookIn_243_28 s0 hJ0 a b_a pR  (((120 - 0) + 1 : Int)).toNat s574 a 0 hG_s574 f_s574 (by first | exact x_rb b_a rfl rfl | exact ⟨by omega, by omega⟩) ⟨by decide, by decide⟩ VCj_s574  (by omega)
  · skip
    exact x_vret k76_8 rfl ⟨hG0, f0, rfl, i0_VCj⟩
set_option maxHeartbeats 8000000 in
theorem V_X10_tree_0 (s0 : xS) (hG0 : GI s0) (hJ0 : J s0) (a : Int) (b_a : (-2147483648) ≤ a ∧ a ≤ 2147483647) (b : Int) (b_b : (-2147483648) ≤ b ∧ b ≤ 2147483647) (d : Int) (b_d : (-2147483648) ≤ d ∧ d ≤ 2147483647) (pR : R1 s0) (i0_VCj : VCj s0) : xe none 95 0 (lv_args 0 [.ref 0, vi a, vi b, vi d]) [] s0 0 0 (fun s' v => GI s' ∧ FL [3329, 3334, 3335, 3336, 3392, 3456, 3520, 3584, 3276, 3648, 3712, 3776, 3840, 3904, 3968, 3277, 4032] s0 s' ∧ ∃ z, v = some (vi z) ∧ ((-1004) ≤ z ∧ z ≤ 127) ∧ VCj s') := by
  have f0 : FL [3329, 3334, 3335, 3336, 3392, 3456, 3520, 3584, 3276, 3648, 3712, 3776, 3840, 3904, 3968, 3277, 4032] s0 s0 := FL.rf
  show xe none 95 0 [(0, .ref 0), (1, vi a), (2, vi b), (3, vi d)] [] s0 0 0 _
  refine x_A k95_0 (fun _ => rfl) ?_
  refine x_getR k95_1 (f := 0) rfl (q := 0) (n := 12) (kd := 3) ⟨by decide, rfl⟩ (q2 := 1) (by decide) rfl ?_
  refine x_A k95_4 (fun _ => rfl) ?_
  obtain ⟨z1, e_z1⟩ : ∃ z, z = s0 1 4 := ⟨_, rfl⟩
  have g_z1 : (1 : Int) ≤ s0 1 4 ∧ s0 1 4 ≤ 40 := hG0 1 4
  refine x_callV k95_5 (y := 59) (n := 1) (w0 := 0) (w1 := 1) (as := [vi a]) (rest := []) (by decide +kernel) (q := 1) (nq := 5) (kq := 4) ⟨by decide, rfl⟩ rfl rfl rfl rfl (xe_mono (C_X7_has_1 s0 hG0 a (by first | exact x_rb b_a rfl rfl | exact ⟨by omega, by omega⟩)) ?_)
  rintro s3 v ⟨h_s3, z2, rfl, hz_z2⟩
  rw [h_s3]
  rcases hz_z2 with ⟨c_z2, e_z2⟩ | ⟨c_z2, e_z2⟩
  · rw [e_z2]
    show xe none 95 8 [(0, .ref 0), (1, vi a), (2, vi b), (3, vi d)] [vi 1] s0 0 0 _
    refine x_if_ne k95_8 (t := 15) rfl ⟨by decide, by decide⟩ (fun c4 => ?_) (fun c4 => by exfalso; omega)
    refine x_A k95_15 (fun _ => rfl) ?_
    refine x_A k95_16 (fun _ => rfl) ?_
    obtain ⟨z5, e_z5⟩ : ∃ z, z = s0 0 10 := ⟨_, rfl⟩
    have g_z5 : (0 : Int) ≤ s0 0 10 ∧ s0 0 10 ≤ 9 := hG0 0 10
    refine x_callV k95_17 (y := 125) (n := 1) (w0 := 0) (w1 := 1) (as := [vi b]) (rest := []) (by decide +kernel) (q := 0) (nq := 12) (kq := 3) ⟨by decide, rfl⟩ rfl rfl rfl rfl (xe_mono (C_X10_isKnownEdition_0 s0 hG0 b (by first | exact x_rb b_b rfl rfl | exact ⟨by omega, by omega⟩)) ?_)
    rintro s7 v ⟨h_s7, z6, rfl, hz_z6⟩
    rw [h_s7]
    rcases hz_z6 with ⟨c_z6, e_z6⟩ | ⟨c_z6, e_z6⟩
    · rw [e_z6]
      show xe none 95 20 [(0, .ref 0), (1, vi a), (2, vi b), (3, vi d)] [vi 1] s0 0 0 _
      refine x_if_eq k95_20 (t := 33) rfl ⟨by decide, by decide⟩ (fun c8 => by exfalso; omega) (fun c8 => ?_)
      refine x_A k95_23 (fun _ => rfl) ?_
      refine x_A k95_24 (fun _ => rfl) ?_
      refine x_bipush k95_25 (by decide +kernel) ?_
      refine x_callS k95_27 (y := 121) (n := 3) (w0 := 0) (w1 := 3) (as := [vi d, vi 0, vi 6]) (rest := []) (by decide +kernel) rfl rfl rfl rfl (xe_mono (C_X10_isWithin s0 hG0 d (by first | exact x_rb b_d rfl rfl | exact ⟨by omega, by omega⟩) 0 ⟨by decide, by decide⟩ 6 ⟨by decide, by decide⟩) ?_)
      rintro s10 v ⟨h_s10, z9, rfl, hz_z9⟩
      rw [h_s10]
      rcases hz_z9 with ⟨c_z9, e_z9⟩ | ⟨c_z9, e_z9⟩
      · rw [e_z9]
        show xe none 95 30 [(0, .ref 0), (1, vi a), (2, vi b), (3, vi d)] [vi 1] s0 0 0 _
        refine x_if_ne k95_30 (t := 37) rfl ⟨by decide, by decide⟩ (fun c11 => ?_) (fun c11 => by exfalso; omega)
        refine x_A k95_37 (fun _ => rfl) ?_
        have c12 : d = 0 ∨ d = 1 ∨ d = 2 ∨ d = 3 ∨ d = 4 ∨ d = 5 ∨ ¬ (0 ≤ d ∧ d ≤ 5) := by omega
        rcases c12 with c12 | c12 | c12 | c12 | c12 | c12 | c12
        · rw [c12]
          refine x_B k95_38 rfl (fun _ => rfl) (fun _ => rfl) (fun _ _ => rfl) ?_
          show xe none 95 76 [(0, .ref 0), (1, vi a), (2, vi b), (3, vi 0)] [] s0 0 0 _
          refine x_A k95_76 (fun _ => rfl) ?_
          refine x_getR k95_77 (f := 0) rfl (q := 0) (n := 12) (kd := 3) ⟨by decide, rfl⟩ (q2 := 1) (by decide) rfl ?_
          refine x_A k95_80 (fun _ => rfl) ?_
          refine x_A k95_81 (fun _ => rfl) ?_
          refine x_callV k95_82 (y := 64) (n := 2) (w0 := 0) (w1 := 2) (as := [vi a, vi b]) (rest := []) (by decide +kernel) (q := 1) (nq := 5) (kq := 4) ⟨by decide, rfl⟩ rfl rfl rfl rfl (xe_mono (E_X7_isThere_1 s0 hG0 a (by first | exact x_rb b_a rfl rfl | exact ⟨by omega, by omega⟩) b (by first | exact x_rb b_b rfl rfl | exact ⟨by omega, by omega⟩)) ?_)
          rintro s14 v ⟨h_s14, z13, rfl, hz_z13⟩
          rw [h_s14]
          rcases hz_z13 with ⟨c_z13, e_z13, m_z13⟩ | ⟨e_z13, m_z13⟩
          · rw [e_z13]
            show xe none 95 85 [(0, .ref 0), (1, vi a), (2, vi b), (3, vi 0)] [vi 1] s0 0 0 _
            refine x_callS k95_85 (y := 126) (n := 1) (w0 := 0) (w1 := 1) (as := [vi 1]) (rest := []) (by decide +kernel) rfl rfl rfl rfl (xe_mono (C_X10_oneIf s0 hG0 1 ⟨by decide, by decide⟩) ?_)
            rintro s16 v ⟨-, t_s16, z15, rfl, g_z15⟩
            rw [t_s16.nil]
            show xe none 95 88 [(0, .ref 0), (1, vi a), (2, vi b), (3, vi 0)] [vi z15] s0 0 0 _
            exact x_iret k95_88 rfl ⟨hG0, f0, z15, rfl, (by first | exact x_rbe e_z15 g_z15 rfl rfl | exact x_rb g_z15 rfl rfl | exact ⟨by omega, by omega⟩), i0_VCj⟩
          · rw [e_z13]
            show xe none 95 85 [(0, .ref 0), (1, vi a), (2, vi b), (3, vi 0)] [vi 0] s0 0 0 _
            refine x_callS k95_85 (y := 126) (n := 1) (w0 := 0) (w1 := 1) (as := [vi 0]) (rest := []) (by decide +kernel) rfl rfl rfl rfl (xe_mono (C_X10_oneIf s0 hG0 0 ⟨by decide, by decide⟩) ?_)
            rintro s18 v ⟨-, t_s18, z17, rfl, g_z17⟩
            rw [t_s18.nil]
            show xe none 95 88 [(0, .ref 0), (1, vi a), (2, vi b), (3, vi 0)] [vi z17] s0 0 0 _
            exact x_iret k95_88 rfl ⟨hG0, f0, z17, rfl, (by first | exact x_rbe e_z17 g_z17 rfl rfl | exact x_rb g_z17 rfl rfl | exact ⟨by omega, by omega⟩), i0_VCj⟩
        · rw [c12]
          refine x_B k95_38 rfl (fun _ => rfl) (fun _ => rfl) (fun _ _ => rfl) ?_
          show xe none 95 89 [(0, .ref 0), (1, vi a), (2, vi b), (3, vi 1)] [] s0 0 0 _
          refine x_A k95_89 (fun _ => rfl) ?_
          refine x_getR k95_90 (f := 0) rfl (q := 0) (n := 12) (kd := 3) ⟨by decide, rfl⟩ (q2 := 1) (by decide) rfl ?_
          refine x_A k95_93 (fun _ => rfl) ?_
          refine x_A k95_94 (fun _ => rfl) ?_
          refine x_callV k95_95 (y := 62) (n := 2) (w0 := 0) (w1 := 2) (as := [vi a, vi b]) (rest := []) (by decide +kernel) (q := 1) (nq := 5) (kq := 4) ⟨by decide, rfl⟩ rfl rfl rfl rfl (xe_mono (E_X7_parentIn_1 s0 hG0 a (by first | exact x_rb b_a rfl rfl | exact ⟨by omega, by omega⟩) b (by first | exact x_rb b_b rfl rfl | exact ⟨by omega, by omega⟩)) ?_)
          rintro s20 v ⟨-, t_s20, z19, rfl, g_z19, xp_z19⟩
          rw [t_s20.nil]
          try rw [t_s20.nil] at xp_z19
          show xe none 95 98 [(0, .ref 0), (1, vi a), (2, vi b), (3, vi 1)] [vi z19] s0 0 0 _
          exact x_iret k95_98 rfl ⟨hG0, f0, z19, rfl, (by first | exact x_rbe e_z19 g_z19 rfl rfl | exact x_rb g_z19 rfl rfl | exact ⟨by omega, by omega⟩), i0_VCj⟩
        · rw [c12]
          refine x_B k95_38 rfl (fun _ => rfl) (fun _ => rfl) (fun _ _ => rfl) ?_
          show xe none 95 99 [(0, .ref 0), (1, vi a), (2, vi b), (3, vi 2)] [] s0 0 0 _
          refine x_A k95_99 (fun _ => rfl) ?_
          refine x_getR k95_100 (f := 0) rfl (q := 0) (n := 12) (kd := 3) ⟨by decide, rfl⟩ (q2 := 1) (by decide) rfl ?_
          refine x_A k95_103 (fun _ => rfl) ?_
          refine x_A k95_104 (fun _ => rfl) ?_
          refine x_callV k95_105 (y := 67) (n := 2) (w0 := 0) (w1 := 2) (as := [vi a, vi b]) (rest := []) (by decide +kernel) (q := 1) (nq := 5) (kq := 4) ⟨by decide, rfl⟩ rfl rfl rfl rfl (xe_mono (E_X7_countBelow_1 s0 hG0 a (by first | exact x_rb b_a rfl rfl | exact ⟨by omega, by omega⟩) b (by first | exact x_rb b_b rfl rfl | exact ⟨by omega, by omega⟩)) ?_)
          rintro s22 v ⟨-, t_s22, z21, rfl, g_z21, xp_z21⟩
          rw [t_s22.nil]
          try rw [t_s22.nil] at xp_z21
          show xe none 95 108 [(0, .ref 0), (1, vi a), (2, vi b), (3, vi 2)] [vi z21] s0 0 0 _
          exact x_iret k95_108 rfl ⟨hG0, f0, z21, rfl, (by first | exact x_rbe e_z21 g_z21 rfl rfl | exact x_rb g_z21 rfl rfl | exact ⟨by omega, by omega⟩), i0_VCj⟩
        · rw [c12]
          refine x_B k95_38 rfl (fun _ => rfl) (fun _ => rfl) (fun _ _ => rfl) ?_
          show xe none 95 109 [(0, .ref 0), (1, vi a), (2, vi b), (3, vi 3)] [] s0 0 0 _
          refine x_A k95_109 (fun _ => rfl) ?_
          refine x_getR k95_110 (f := 0) rfl (q := 0) (n := 12) (kd := 3) ⟨by decide, rfl⟩ (q2 := 1) (by decide) rfl ?_
          refine x_getR k95_113 (f := 2) rfl (q := 1) (n := 5) (kd := 4) ⟨by decide, rfl⟩ (q2 := 4) (by decide) rfl ?_
          refine x_A k95_116 (fun _ => rfl) ?_
          refine x_iald k95_117 (q := 4) (n := 40) ⟨by decide, rfl⟩ (by decide) (by first | exact x_rbl b_a rfl rfl | exact ⟨by omega, by omega⟩) ?_
          refine x_top (fun z23 e_z23 => ?_)
          have g_z23 : (-1) ≤ s0 4 a.toNat ∧ s0 4 a.toNat ≤ 39 := hG0 4 a.toNat
          exact x_iret k95_118 rfl ⟨hG0, f0, z23, rfl, (by first | exact x_rbe e_z23 g_z23 rfl rfl | exact x_rb g_z23 rfl rfl | exact ⟨by omega, by omega⟩), i0_VCj⟩
        · rw [c12]
          refine x_B k95_38 rfl (fun _ => rfl) (fun _ => rfl) (fun _ _ => rfl) ?_
          show xe none 95 119 [(0, .ref 0), (1, vi a), (2, vi b), (3, vi 4)] [] s0 0 0 _
          refine x_A k95_119 (fun _ => rfl) ?_
          refine x_getR k95_120 (f := 0) rfl (q := 0) (n := 12) (kd := 3) ⟨by decide, rfl⟩ (q2 := 1) (by decide) rfl ?_
          refine x_getR k95_123 (f := 0) rfl (q := 1) (n := 5) (kd := 4) ⟨by decide, rfl⟩ (q2 := 2) (by decide) rfl ?_
          refine x_A k95_126 (fun _ => rfl) ?_
          refine x_iald k95_127 (q := 2) (n := 40) ⟨by decide, rfl⟩ (by decide) (by first | exact x_rbl b_a rfl rfl | exact ⟨by omega, by omega⟩) ?_
          refine x_top (fun z24 e_z24 => ?_)
          have g_z24 : (0 : Int) ≤ s0 2 a.toNat ∧ s0 2 a.toNat ≤ 9 := hG0 2 a.toNat
          exact x_iret k95_128 rfl ⟨hG0, f0, z24, rfl, (by first | exact x_rbe e_z24 g_z24 rfl rfl | exact x_rb g_z24 rfl rfl | exact ⟨by omega, by omega⟩), i0_VCj⟩
        · rw [c12]
          refine x_B k95_38 rfl (fun _ => rfl) (fun _ => rfl) (fun _ _ => rfl) ?_
          show xe none 95 129 [(0, .ref 0), (1, vi a), (2, vi b), (3, vi 5)] [] s0 0 0 _
          refine x_A k95_129 (fun _ => rfl) ?_
          refine x_getR k95_130 (f := 0) rfl (q := 0) (n := 12) (kd := 3) ⟨by decide, rfl⟩ (q2 := 1) (by decide) rfl ?_
          refine x_getR k95_133 (f := 1) rfl (q := 1) (n := 5) (kd := 4) ⟨by decide, rfl⟩ (q2 := 3) (by decide) rfl ?_
          refine x_A k95_136 (fun _ => rfl) ?_
          refine x_iald k95_137 (q := 3) (n := 40) ⟨by decide, rfl⟩ (by decide) (by first | exact x_rbl b_a rfl rfl | exact ⟨by omega, by omega⟩) ?_
          refine x_top (fun z25 e_z25 => ?_)
          have g_z25 : (-1) ≤ s0 3 a.toNat ∧ s0 3 a.toNat ≤ 9 := hG0 3 a.toNat
          exact x_iret k95_138 rfl ⟨hG0, f0, z25, rfl, (by first | exact x_rbe e_z25 g_z25 rfl rfl | exact x_rb g_z25 rfl rfl | exact ⟨by omega, by omega⟩), i0_VCj⟩
        · refine x_tabD k95_38 ⟨by omega, by omega⟩ c12 (t0 := 139) rfl ?_
          refine x_A k95_139 (fun _ => rfl) ?_
          refine x_getR k95_140 (f := 9) rfl (q := 0) (n := 12) (kd := 3) ⟨by decide, rfl⟩ (q2 := 243) (by decide) rfl ?_
          refine x_A k95_143 (fun _ => rfl) ?_
          refine x_callV k95_144 (y := 76) (n := 1) (w0 := 0) (w1 := 1) (as := [vi b]) (rest := []) (by decide +kernel) (q := 243) (nq := 13) (kq := 13) ⟨by decide, rfl⟩ rfl rfl rfl rfl (xe_mono (V_X8_lookIn_243 s0 hG0 (hJ0.fl f0 (by decide)) b (by first | exact x_rb b_b rfl rfl | exact ⟨by omega, by omega⟩) (pR.fl f0 (by decide)) i0_VCj) ?_)
          rintro s27 v ⟨hG_s27, t_s27, rfl, VCj_s27⟩
          have f_s27 : FL [3329, 3334, 3335, 3336, 3392, 3456, 3520, 3584, 3276, 3648, 3712, 3776, 3840, 3904, 3968, 3277, 4032] s0 s27 := f0.tr t_s27 (by decide)
          have q28 : s27 1 4 = z1 := (t_s27 1 4 (show 69 ∉ [3329, 3334, 3335, 3336, 3392, 3456, 3520, 3584, 3276, 3648, 3712, 3776, 3840, 3904, 3968, 3277, 4032] from by decide)).trans e_z1.symm
          have q29 : s27 0 10 = z5 := (t_s27 0 10 (show 11 ∉ [3329, 3334, 3335, 3336, 3392, 3456, 3520, 3584, 3276, 3648, 3712, 3776, 3840, 3904, 3968, 3277, 4032] from by decide)).trans e_z5.symm
          show xe none 95 147 [(0, .ref 0), (1, vi a), (2, vi b), (3, vi d)] [] s27 0 0 _
          refine x_A k95_147 (fun _ => rfl) ?_
          refine x_getR k95_148 (f := 9) rfl (q := 0) (n := 12) (kd := 3) ⟨by decide, rfl⟩ (q2 := 243) (by decide) rfl ?_
          refine x_A k95_151 (fun _ => rfl) ?_
          refine x_callV k95_152 (y := 79) (n := 1) (w0 := 0) (w1 := 1) (as := [vi a]) (rest := []) (by decide +kernel) (q := 243) (nq := 13) (kq := 13) ⟨by decide, rfl⟩ rfl rfl rfl rfl (xe_mono (C_X8_showing_243 s27 hG_s27 a (by first | exact x_rb b_a rfl rfl | exact ⟨by omega, by omega⟩)) ?_)
          rintro s31 v ⟨-, t_s31, z30, rfl, b_z30⟩
          rw [t_s31.nil]
          show xe none 95 155 [(0, .ref 0), (1, vi a), (2, vi b), (3, vi d)] [vj z30] s27 0 0 _
          refine x_callS k95_155 (y := 219) (n := 1) (w0 := 0) (w1 := 2) (as := [vj z30]) (rest := []) (by decide +kernel) rfl rfl rfl rfl (xe_mono (C_J13_bitCount_95d88 s27 hG_s27 z30 b_z30) ?_)
          rintro s33 v ⟨-, t_s33, z32, rfl, g_z32⟩
          rw [t_s33.nil]
          show xe none 95 158 [(0, .ref 0), (1, vi a), (2, vi b), (3, vi d)] [vi z32] s27 0 0 _
          exact x_iret k95_158 rfl ⟨hG_s27, f_s27, z32, rfl, (by first | exact x_rbe e_z32 g_z32 rfl rfl | exact x_rb g_z32 rfl rfl | exact ⟨by omega, by omega⟩), VCj_s27⟩
      · rw [e_z9]
        show xe none 95 30 [(0, .ref 0), (1, vi a), (2, vi b), (3, vi d)] [vi 0] s0 0 0 _
        refine x_if_ne k95_30 (t := 37) rfl ⟨by decide, by decide⟩ (fun c34 => by exfalso; omega) (fun c34 => ?_)
        refine x_sipush k95_33 (by decide +kernel) ?_
        exact x_iret k95_36 rfl ⟨hG0, f0, (-1002), rfl, ⟨by decide, by decide⟩, i0_VCj⟩
    · rw [e_z6]
      show xe none 95 20 [(0, .ref 0), (1, vi a), (2, vi b), (3, vi d)] [vi 0] s0 0 0 _
      refine x_if_eq k95_20 (t := 33) rfl ⟨by decide, by decide⟩ (fun c35 => ?_) (fun c35 => by exfalso; omega)
      refine x_sipush k95_33 (by decide +kernel) ?_
      exact x_iret k95_36 rfl ⟨hG0, f0, (-1002), rfl, ⟨by decide, by decide⟩, i0_VCj⟩
  · rw [e_z2]
    show xe none 95 8 [(0, .ref 0), (1, vi a), (2, vi b), (3, vi d)] [vi 0] s0 0 0 _
    refine x_if_ne k95_8 (t := 15) rfl ⟨by decide, by decide⟩ (fun c36 => by exfalso; omega) (fun c36 => ?_)
    refine x_sipush k95_11 (by decide +kernel) ?_
    exact x_iret k95_14 rfl ⟨hG0, f0, (-1001), rfl, ⟨by decide, by decide⟩, i0_VCj⟩
set_option maxHeartbeats 8000000 in
theorem V_X10_told_0 (s0 : xS) (hG0 : GI s0) (hJ0 : J s0) (a : Int) (b_a : (-2147483648) ≤ a ∧ a ≤ 2147483647) (b : Int) (b_b : (-2147483648) ≤ b ∧ b ≤ 2147483647) (pR : R1 s0) (i0_VCj : VCj s0) : xe none 100 0 (lv_args 0 [.ref 0, vi a, vi b]) [] s0 0 0 (fun s' v => GI s' ∧ FL [3329, 3334, 3335, 3336, 3392, 3456, 3520, 3584, 3276, 3648, 3712, 3776, 3840, 3904, 3968, 3277, 4032] s0 s' ∧ ∃ z, v = some (vi z) ∧ ((-1004) ≤ z ∧ z ≤ 127) ∧ VCj s') := by
  have f0 : FL [3329, 3334, 3335, 3336, 3392, 3456, 3520, 3584, 3276, 3648, 3712, 3776, 3840, 3904, 3968, 3277, 4032] s0 s0 := FL.rf
  show xe none 100 0 [(0, .ref 0), (1, vi a), (2, vi b)] [] s0 0 0 _
  refine x_A k100_0 (fun _ => rfl) ?_
  refine x_getR k100_1 (f := 2) rfl (q := 0) (n := 12) (kd := 3) ⟨by decide, rfl⟩ (q2 := 50) (by decide) rfl ?_
  refine x_A k100_4 (fun _ => rfl) ?_
  obtain ⟨z1, e_z1⟩ : ∃ z, z = s0 50 6 := ⟨_, rfl⟩
  have g_z1 : (0 : Int) ≤ s0 50 6 ∧ s0 50 6 ≤ 120 := hG0 50 6
  refine x_callV k100_5 (y := 24) (n := 1) (w0 := 0) (w1 := 1) (as := [vi a]) (rest := []) (by decide +kernel) (q := 50) (nq := 7) (kq := 6) ⟨by decide, rfl⟩ rfl rfl rfl rfl (xe_mono (C_X2_has_50 s0 hG0 a (by first | exact x_rb b_a rfl rfl | exact ⟨by omega, by omega⟩)) ?_)
  rintro s3 v ⟨h_s3, z2, rfl, hz_z2⟩
  rw [h_s3]
  rcases hz_z2 with ⟨c_z2, e_z2⟩ | ⟨c_z2, e_z2⟩
  · rw [e_z2]
    show xe none 100 8 [(0, .ref 0), (1, vi a), (2, vi b)] [vi 1] s0 0 0 _
    refine x_if_ne k100_8 (t := 15) rfl ⟨by decide, by decide⟩ (fun c4 => ?_) (fun c4 => by exfalso; omega)
    refine x_A k100_15 (fun _ => rfl) ?_
    refine x_A k100_16 (fun _ => rfl) ?_
    refine x_bipush k100_17 (by decide +kernel) ?_
    refine x_callS k100_19 (y := 121) (n := 3) (w0 := 0) (w1 := 3) (as := [vi b, vi 0, vi 6]) (rest := []) (by decide +kernel) rfl rfl rfl rfl (xe_mono (C_X10_isWithin s0 hG0 b (by first | exact x_rb b_b rfl rfl | exact ⟨by omega, by omega⟩) 0 ⟨by decide, by decide⟩ 6 ⟨by decide, by decide⟩) ?_)
    rintro s6 v ⟨h_s6, z5, rfl, hz_z5⟩
    rw [h_s6]
    rcases hz_z5 with ⟨c_z5, e_z5⟩ | ⟨c_z5, e_z5⟩
    · rw [e_z5]
      show xe none 100 22 [(0, .ref 0), (1, vi a), (2, vi b)] [vi 1] s0 0 0 _
      refine x_if_ne k100_22 (t := 29) rfl ⟨by decide, by decide⟩ (fun c7 => ?_) (fun c7 => by exfalso; omega)
      refine x_A k100_29 (fun _ => rfl) ?_
      have c8 : b = 0 ∨ b = 1 ∨ b = 2 ∨ b = 3 ∨ b = 4 ∨ b = 5 ∨ ¬ (0 ≤ b ∧ b ≤ 5) := by omega
      rcases c8 with c8 | c8 | c8 | c8 | c8 | c8 | c8
      · rw [c8]
        refine x_B k100_30 rfl (fun _ => rfl) (fun _ => rfl) (fun _ _ => rfl) ?_
        show xe none 100 68 [(0, .ref 0), (1, vi a), (2, vi 0)] [] s0 0 0 _
        refine x_A k100_68 (fun _ => rfl) ?_
        refine x_getR k100_69 (f := 2) rfl (q := 0) (n := 12) (kd := 3) ⟨by decide, rfl⟩ (q2 := 50) (by decide) rfl ?_
        refine x_getR k100_72 (f := 0) rfl (q := 50) (n := 7) (kd := 6) ⟨by decide, rfl⟩ (q2 := 51) (by decide) rfl ?_
        refine x_A k100_75 (fun _ => rfl) ?_
        refine x_iald k100_76 (q := 51) (n := 120) ⟨by decide, rfl⟩ (by decide) (by first | exact x_rbl b_a rfl rfl | exact ⟨by omega, by omega⟩) ?_
        refine x_top (fun z9 e_z9 => ?_)
        have g_z9 : (0 : Int) ≤ s0 51 a.toNat ∧ s0 51 a.toNat ≤ 39 := hG0 51 a.toNat
        exact x_iret k100_77 rfl ⟨hG0, f0, z9, rfl, (by first | exact x_rbe e_z9 g_z9 rfl rfl | exact x_rb g_z9 rfl rfl | exact ⟨by omega, by omega⟩), i0_VCj⟩
      · rw [c8]
        refine x_B k100_30 rfl (fun _ => rfl) (fun _ => rfl) (fun _ _ => rfl) ?_
        show xe none 100 78 [(0, .ref 0), (1, vi a), (2, vi 1)] [] s0 0 0 _
        refine x_A k100_78 (fun _ => rfl) ?_
        refine x_getR k100_79 (f := 2) rfl (q := 0) (n := 12) (kd := 3) ⟨by decide, rfl⟩ (q2 := 50) (by decide) rfl ?_
        refine x_getR k100_82 (f := 1) rfl (q := 50) (n := 7) (kd := 6) ⟨by decide, rfl⟩ (q2 := 52) (by decide) rfl ?_
        refine x_A k100_85 (fun _ => rfl) ?_
        refine x_iald k100_86 (q := 52) (n := 120) ⟨by decide, rfl⟩ (by decide) (by first | exact x_rbl b_a rfl rfl | exact ⟨by omega, by omega⟩) ?_
        refine x_top (fun z10 e_z10 => ?_)
        have g_z10 : (0 : Int) ≤ s0 52 a.toNat ∧ s0 52 a.toNat ≤ 39 := hG0 52 a.toNat
        exact x_iret k100_87 rfl ⟨hG0, f0, z10, rfl, (by first | exact x_rbe e_z10 g_z10 rfl rfl | exact x_rb g_z10 rfl rfl | exact ⟨by omega, by omega⟩), i0_VCj⟩
      · rw [c8]
        refine x_B k100_30 rfl (fun _ => rfl) (fun _ => rfl) (fun _ _ => rfl) ?_
        show xe none 100 88 [(0, .ref 0), (1, vi a), (2, vi 2)] [] s0 0 0 _
        refine x_A k100_88 (fun _ => rfl) ?_
        refine x_getR k100_89 (f := 2) rfl (q := 0) (n := 12) (kd := 3) ⟨by decide, rfl⟩ (q2 := 50) (by decide) rfl ?_
        refine x_getR k100_92 (f := 2) rfl (q := 50) (n := 7) (kd := 6) ⟨by decide, rfl⟩ (q2 := 53) (by decide) rfl ?_
        refine x_A k100_95 (fun _ => rfl) ?_
        refine x_iald k100_96 (q := 53) (n := 120) ⟨by decide, rfl⟩ (by decide) (by first | exact x_rbl b_a rfl rfl | exact ⟨by omega, by omega⟩) ?_
        refine x_top (fun z11 e_z11 => ?_)
        have g_z11 : (0 : Int) ≤ s0 53 a.toNat ∧ s0 53 a.toNat ≤ 7 := hG0 53 a.toNat
        exact x_iret k100_97 rfl ⟨hG0, f0, z11, rfl, (by first | exact x_rbe e_z11 g_z11 rfl rfl | exact x_rb g_z11 rfl rfl | exact ⟨by omega, by omega⟩), i0_VCj⟩
      · rw [c8]
        refine x_B k100_30 rfl (fun _ => rfl) (fun _ => rfl) (fun _ _ => rfl) ?_
        show xe none 100 98 [(0, .ref 0), (1, vi a), (2, vi 3)] [] s0 0 0 _
        refine x_A k100_98 (fun _ => rfl) ?_
        refine x_getR k100_99 (f := 2) rfl (q := 0) (n := 12) (kd := 3) ⟨by decide, rfl⟩ (q2 := 50) (by decide) rfl ?_
        refine x_getR k100_102 (f := 3) rfl (q := 50) (n := 7) (kd := 6) ⟨by decide, rfl⟩ (q2 := 54) (by decide) rfl ?_
        refine x_A k100_105 (fun _ => rfl) ?_
        refine x_iald k100_106 (q := 54) (n := 120) ⟨by decide, rfl⟩ (by decide) (by first | exact x_rbl b_a rfl rfl | exact ⟨by omega, by omega⟩) ?_
        refine x_top (fun z12 e_z12 => ?_)
        have g_z12 : (0 : Int) ≤ s0 54 a.toNat ∧ s0 54 a.toNat ≤ 63 := hG0 54 a.toNat
        exact x_iret k100_107 rfl ⟨hG0, f0, z12, rfl, (by first | exact x_rbe e_z12 g_z12 rfl rfl | exact x_rb g_z12 rfl rfl | exact ⟨by omega, by omega⟩), i0_VCj⟩
      · rw [c8]
        refine x_B k100_30 rfl (fun _ => rfl) (fun _ => rfl) (fun _ _ => rfl) ?_
        show xe none 100 108 [(0, .ref 0), (1, vi a), (2, vi 4)] [] s0 0 0 _
        refine x_A k100_108 (fun _ => rfl) ?_
        refine x_getR k100_109 (f := 2) rfl (q := 0) (n := 12) (kd := 3) ⟨by decide, rfl⟩ (q2 := 50) (by decide) rfl ?_
        refine x_getR k100_112 (f := 4) rfl (q := 50) (n := 7) (kd := 6) ⟨by decide, rfl⟩ (q2 := 55) (by decide) rfl ?_
        refine x_A k100_115 (fun _ => rfl) ?_
        refine x_iald k100_116 (q := 55) (n := 120) ⟨by decide, rfl⟩ (by decide) (by first | exact x_rbl b_a rfl rfl | exact ⟨by omega, by omega⟩) ?_
        refine x_top (fun z13 e_z13 => ?_)
        have g_z13 : (0 : Int) ≤ s0 55 a.toNat ∧ s0 55 a.toNat ≤ 9 := hG0 55 a.toNat
        exact x_iret k100_117 rfl ⟨hG0, f0, z13, rfl, (by first | exact x_rbe e_z13 g_z13 rfl rfl | exact x_rb g_z13 rfl rfl | exact ⟨by omega, by omega⟩), i0_VCj⟩
      · rw [c8]
        refine x_B k100_30 rfl (fun _ => rfl) (fun _ => rfl) (fun _ _ => rfl) ?_
        show xe none 100 118 [(0, .ref 0), (1, vi a), (2, vi 5)] [] s0 0 0 _
        refine x_A k100_118 (fun _ => rfl) ?_
        refine x_getR k100_119 (f := 9) rfl (q := 0) (n := 12) (kd := 3) ⟨by decide, rfl⟩ (q2 := 243) (by decide) rfl ?_
        refine x_callV k100_122 (y := 74) (n := 0) (w0 := 0) (w1 := 0) (as := []) (rest := []) (by decide +kernel) (q := 243) (nq := 13) (kq := 13) ⟨by decide, rfl⟩ rfl rfl rfl rfl (xe_mono (E_X8_judge_243 s0 hG0 (hJ0.fl f0 (by decide)) (pR.fl f0 (by decide)) i0_VCj) ?_)
        rintro s15 v ⟨hG_s15, t_s15, rfl, xp_z14⟩
        have f_s15 : FL [3329, 3334, 3335, 3336, 3392, 3456, 3520, 3584, 3276, 3648, 3712, 3776, 3840, 3904, 3968, 3277, 4032] s0 s15 := f0.tr t_s15 (by decide)
        have q16 : s15 50 6 = z1 := (t_s15 50 6 (show 711 ∉ [3329, 3334, 3335, 3336, 3392, 3456, 3520, 3584, 3276, 3648, 3712, 3776, 3840] from by decide)).trans e_z1.symm
        obtain ⟨z17, e_z17⟩ : ∃ z, z = s15 243 11 := ⟨_, rfl⟩
        have g_z17 : (0 : Int) ≤ s15 243 11 ∧ s15 243 11 ≤ 1 := hG_s15 243 11
        show xe none 100 125 [(0, .ref 0), (1, vi a), (2, vi 5)] [] s15 0 0 _
        have VCj_d : VCj s15 := VCj.judge hG0 t_s15 (by decide) xp_z14.1
        refine x_A k100_125 (fun _ => rfl) ?_
        refine x_getR k100_126 (f := 9) rfl (q := 0) (n := 12) (kd := 3) ⟨by decide, rfl⟩ (q2 := 243) (by decide) rfl ?_
        refine x_getR k100_129 (f := 7) rfl (q := 243) (n := 13) (kd := 13) ⟨by decide, rfl⟩ (q2 := 252) (by decide) rfl ?_
        refine x_A k100_132 (fun _ => rfl) ?_
        refine x_iald k100_133 (q := 252) (n := 120) ⟨by decide, rfl⟩ (by decide) (by first | exact x_rbl b_a rfl rfl | exact ⟨by omega, by omega⟩) ?_
        refine x_top (fun z18 e_z18 => ?_)
        have g_z18 : (0 : Int) ≤ s15 252 a.toNat ∧ s15 252 a.toNat ≤ 4 := hG_s15 252 a.toNat
        exact x_iret k100_134 rfl ⟨hG_s15, f_s15, z18, rfl, (by first | exact x_rbe e_z18 g_z18 rfl rfl | exact x_rb g_z18 rfl rfl | exact ⟨by omega, by omega⟩), VCj_d⟩
      · refine x_tabD k100_30 ⟨by omega, by omega⟩ c8 (t0 := 135) rfl ?_
        refine x_A k100_135 (fun _ => rfl) ?_
        refine x_getR k100_136 (f := 2) rfl (q := 0) (n := 12) (kd := 3) ⟨by decide, rfl⟩ (q2 := 50) (by decide) rfl ?_
        refine x_A k100_139 (fun _ => rfl) ?_
        refine x_A k100_140 (fun _ => rfl) ?_
        refine x_getI k100_141 (f := 10) rfl (q := 0) (n := 12) (kd := 3) ⟨by decide, rfl⟩ (by decide) rfl ?_
        refine x_top (fun z19 e_z19 => ?_)
        have g_z19 : (0 : Int) ≤ s0 0 10 ∧ s0 0 10 ≤ 9 := hG0 0 10
        refine x_callV k100_144 (y := 26) (n := 2) (w0 := 0) (w1 := 2) (as := [vi a, vi z19]) (rest := []) (by decide +kernel) (q := 50) (nq := 7) (kq := 6) ⟨by decide, rfl⟩ rfl rfl rfl rfl (xe_mono (E_X2_doubters_50 s0 hG0 a (by first | exact x_rb b_a rfl rfl | exact ⟨by omega, by omega⟩) z19 (by first | exact x_rbe e_z19 g_z19 rfl rfl | exact x_rb g_z19 rfl rfl | exact ⟨by omega, by omega⟩) ⟨by omega, by omega⟩) ?_)
        rintro s21 v ⟨-, t_s21, z20, rfl, g_z20, xp_z20⟩
        rw [t_s21.nil]
        try rw [t_s21.nil] at xp_z20
        show xe none 100 147 [(0, .ref 0), (1, vi a), (2, vi b)] [vi z20] s0 0 0 _
        exact x_iret k100_147 rfl ⟨hG0, f0, z20, rfl, (by first | exact x_rbe e_z20 g_z20 rfl rfl | exact x_rb g_z20 rfl rfl | exact ⟨by omega, by omega⟩), i0_VCj⟩
    · rw [e_z5]
      show xe none 100 22 [(0, .ref 0), (1, vi a), (2, vi b)] [vi 0] s0 0 0 _
      refine x_if_ne k100_22 (t := 29) rfl ⟨by decide, by decide⟩ (fun c22 => by exfalso; omega) (fun c22 => ?_)
      refine x_sipush k100_25 (by decide +kernel) ?_
      exact x_iret k100_28 rfl ⟨hG0, f0, (-1002), rfl, ⟨by decide, by decide⟩, i0_VCj⟩
  · rw [e_z2]
    show xe none 100 8 [(0, .ref 0), (1, vi a), (2, vi b)] [vi 0] s0 0 0 _
    refine x_if_ne k100_8 (t := 15) rfl ⟨by decide, by decide⟩ (fun c23 => by exfalso; omega) (fun c23 => ?_)
    refine x_sipush k100_11 (by decide +kernel) ?_
    exact x_iret k100_14 rfl ⟨hG0, f0, (-1001), rfl, ⟨by decide, by decide⟩, i0_VCj⟩
