set_option maxHeartbeats 8000000 in
theorem E_X8_meansBelow_243 (s0 : xS) (hG0 : GI s0) (a : Int) (b_a : 0 ≤ a ∧ a ≤ 119) (b : Int) (b_b : (-2147483648) ≤ b ∧ b ≤ 2147483647) : xe none 81 0 (lv_args 0 [.ref 243, vi a, vi b]) [] s0 0 0 (fun s' v => GI s' ∧ FL [] s0 s' ∧ ∃ z, v = some (vi z) ∧ (0 ≤ z ∧ z ≤ 1) ∧ ((z = 1 ∧ mbP s0 a b) ∨ (z = 0 ∧ ¬ mbP s0 a b))) := by
  have f0 : FL [] s0 s0 := FL.rf
  show xe none 81 0 [(0, .ref 243), (1, vi a), (2, vi b)] [] s0 0 0 _
  refine x_A k81_0 (fun _ => rfl) ?_
  refine x_getR k81_1 (f := 8) rfl (q := 243) (n := 13) (kd := 13) ⟨by decide, rfl⟩ (q2 := 253) (by decide) rfl ?_
  refine x_A k81_4 (fun _ => rfl) ?_
  refine x_iald k81_5 (q := 253) (n := 120) ⟨by decide, rfl⟩ (by decide) (by first | exact x_rbl b_a rfl rfl | exact ⟨by omega, by omega⟩) ?_
  refine x_top (fun z1 e_z1 => ?_)
  have g_z1 : (-1) ≤ s0 253 a.toNat ∧ s0 253 a.toNat ≤ 39 := hG0 253 a.toNat
  refine x_A k81_6 (fun _ => rfl) ?_
  refine x_ic_eq k81_7 (t := 35) rfl (by first | exact x_rbe e_z1 g_z1 rfl rfl | exact x_rb g_z1 rfl rfl | exact ⟨by omega, by omega⟩) ⟨by decide, by decide⟩ (fun c2 => ?_) (fun c2 => ?_)
  · skip
    refine x_A k81_35 (fun _ => rfl) ?_
    exact x_zret k81_36 rfl ⟨by omega, by omega⟩ ⟨hG0, f0, 0, rfl, ⟨by decide, by decide⟩, (Or.inr ⟨rfl, fun q => by have q1 := q.1; omega⟩)⟩
  · skip
    refine x_A k81_10 (fun _ => rfl) ?_
    refine x_getR k81_11 (f := 0) rfl (q := 243) (n := 13) (kd := 13) ⟨by decide, rfl⟩ (q2 := 1) (by decide) rfl ?_
    refine x_A k81_14 (fun _ => rfl) ?_
    refine x_getR k81_15 (f := 8) rfl (q := 243) (n := 13) (kd := 13) ⟨by decide, rfl⟩ (q2 := 253) (by decide) rfl ?_
    refine x_A k81_18 (fun _ => rfl) ?_
    refine x_iald k81_19 (q := 253) (n := 120) ⟨by decide, rfl⟩ (by decide) (by first | exact x_rbl b_a rfl rfl | exact ⟨by omega, by omega⟩) ?_
    refine x_rw (e_z1.symm) ?_
    refine x_A k81_20 (fun _ => rfl) ?_
    refine x_A k81_21 (fun _ => rfl) ?_
    refine x_getI k81_22 (f := 12) rfl (q := 243) (n := 13) (kd := 13) ⟨by decide, rfl⟩ (by decide) rfl ?_
    refine x_top (fun z3 e_z3 => ?_)
    have g_z3 : (-1) ≤ s0 243 12 ∧ s0 243 12 ≤ 9 := hG0 243 12
    refine x_callV k81_25 (y := 66) (n := 3) (w0 := 0) (w1 := 3) (as := [vi z1, vi b, vi z3]) (rest := []) (by decide +kernel) (q := 1) (nq := 5) (kq := 4) ⟨by decide, rfl⟩ rfl rfl rfl rfl (xe_mono (E_X7_isBelow_1 s0 hG0 z1 (by first | exact x_rbe e_z1 g_z1 rfl rfl | exact x_rb g_z1 rfl rfl | exact ⟨by omega, by omega⟩) b (by first | exact x_rb b_b rfl rfl | exact ⟨by omega, by omega⟩) z3 (by first | exact x_rbe e_z3 g_z3 rfl rfl | exact x_rb g_z3 rfl rfl | exact ⟨by omega, by omega⟩)) ?_)
    rintro s5 v ⟨-, t_s5, z4, rfl, g_z4, xp_z4⟩
    rw [t_s5.nil]
    try rw [t_s5.nil] at xp_z4
    show xe none 81 28 [(0, .ref 243), (1, vi a), (2, vi b)] [vi z4] s0 0 0 _
    refine x_if_eq k81_28 (t := 35) rfl (by first | exact x_rbe e_z4 g_z4 rfl rfl | exact x_rb g_z4 rfl rfl | exact ⟨by omega, by omega⟩) (fun c6 => ?_) (fun c6 => ?_)
    · skip
      refine x_A k81_35 (fun _ => rfl) ?_
      exact x_zret k81_36 rfl ⟨by omega, by omega⟩ ⟨hG0, f0, 0, rfl, ⟨by decide, by decide⟩, (Or.inr ⟨rfl, fun q => (xp_z4.resolve_left (fun q => by omega)).2 (by rw [← e_z1.symm, ← e_z3.symm]; exact q.2)⟩)⟩
    · skip
      refine x_A k81_31 (fun _ => rfl) ?_
      refine x_goto k81_32 (t := 36) rfl ?_
      exact x_zret k81_36 rfl ⟨by omega, by omega⟩ ⟨hG0, f0, 1, rfl, ⟨by decide, by decide⟩, (Or.inl ⟨rfl, by omega, by have q := (xp_z4.resolve_right (fun q => by omega)).2; rw [← e_z1.symm, ← e_z3.symm] at q; exact q⟩)⟩
set_option maxHeartbeats 8000000 in
theorem L_W_X10_led_0_49 (s0 : xS) (hJ0 : J s0) (hG0 : GI s0) (a : Int) (b_a : (-2147483648) ≤ a ∧ a ≤ 2147483647) (b : Int) (b_b : (-2147483648) ≤ b ∧ b ≤ 2147483647) (d : Int) (b_d : (-2147483648) ≤ d ∧ d ≤ 2147483647) (pR : R1 s0)  : ∀ (n : Nat) (s : xS) (x1 : Int) (x2 : Int) (x3 : Int) (x4 : Int) (x1000 : Int) (hG : GI s) (f : FL [3329, 3334, 3335, 3336, 3392, 3456, 3520, 3584, 3276, 3648, 3712, 3776, 3840, 3904, 3968, 3277, 4032] s0 s) (b_x1 : 0 ≤ x1 ∧ x1 ≤ 39) (b_x2 : 0 ≤ x2 ∧ x2 ≤ 39) (b_x3 : 0 ≤ x3 ∧ x3 ≤ 9) (b_x4 : 0 ≤ x4 ∧ x4 ≤ 120) (b_x1000 : 0 ≤ x1000 ∧ x1000 ≤ 120) (r_4_1000 : x4 ≤ x1000 + 0) (w_0 : x1 = a ∧ x2 = b ∧ x3 = d ∧ x1000 = s0 50 6 ∧ x4 ≤ x1000) (w_1 : 0 ≤ a ∧ a < s0 46 3 ∧ 0 ≤ b ∧ b < s0 1 4 ∧ 0 ≤ d ∧ d ≤ s0 0 10) (w_2 : VL s s0 d) (w_3 : s 243 12 = d) (w_4 : ∀ i : Int, 0 ≤ i → i < x4 → ¬ ldP s0 a b d i) (e_x1000 : x1000 = s 50 6) (i_VCj : VCj s) (i_VCl : VCl s)  (hm : (120 - x4) < (n : Int)), xe none 102 49 [(0, .ref 0), (1, vi x1), (2, vi x2), (3, vi x3), (4, vi x4)] [] s 0 0 (fun s' v => GI s' ∧ FL [3329, 3334, 3335, 3336, 3392, 3456, 3520, 3584, 3276, 3648, 3712, 3776, 3840, 3904, 3968, 3277, 4032] s0 s' ∧ ∃ z, v = some (vi z) ∧ ((-1004) ≤ z ∧ z ≤ 127) ∧ (LdS s0 a b d z) ∧ VCj s' ∧ VCl s') := by
  intro n
  induction n with
  | zero => intro s x1 x2 x3 x4 x1000 hG f b_x1 b_x2 b_x3 b_x4 b_x1000 r_4_1000 w_0 w_1 w_2 w_3 w_4 e_x1000 i_VCj i_VCl  hm; exfalso; omega
  | succ n ih =>
    intro s x1 x2 x3 x4 x1000 hG f b_x1 b_x2 b_x3 b_x4 b_x1000 r_4_1000 w_0 w_1 w_2 w_3 w_4 e_x1000 i_VCj i_VCl  hm
    have ve_ : VE s s0 := FL.ve f hG0 (by decide)
    refine x_A k102_49 (fun _ => rfl) ?_
    refine x_A k102_51 (fun _ => rfl) ?_
    refine x_getR k102_52 (f := 2) rfl (q := 0) (n := 12) (kd := 3) ⟨by decide, rfl⟩ (q2 := 50) (by decide) rfl ?_
    refine x_getI k102_55 (f := 6) rfl (q := 50) (n := 7) (kd := 6) ⟨by decide, rfl⟩ (by decide) rfl ?_
    refine x_rw (e_x1000.symm) ?_
    refine x_ic_ge k102_58 (t := 97) rfl (by first | exact x_rb b_x4 rfl rfl | exact ⟨by omega, by omega⟩) (by first | exact x_rb b_x1000 rfl rfl | exact ⟨by omega, by omega⟩) (fun c577 => ?_) (fun c577 => ?_)
    · skip
      refine x_A k102_97 (fun _ => rfl) ?_
      exact x_iret k102_98 rfl ⟨hG, f, (-1), rfl, ⟨by decide, by decide⟩, (by unfold LdS; exact Or.inr (Or.inr ⟨by omega, by omega, Or.inl ⟨rfl, fun i i0 i1 => w_4 i i0 (by omega)⟩⟩)), i_VCj, i_VCl⟩
    · skip
      refine x_A k102_61 (fun _ => rfl) ?_
      refine x_getR k102_62 (f := 2) rfl (q := 0) (n := 12) (kd := 3) ⟨by decide, rfl⟩ (q2 := 50) (by decide) rfl ?_
      refine x_getR k102_65 (f := 0) rfl (q := 50) (n := 7) (kd := 6) ⟨by decide, rfl⟩ (q2 := 51) (by decide) rfl ?_
      refine x_A k102_68 (fun _ => rfl) ?_
      refine x_iald k102_70 (q := 51) (n := 120) ⟨by decide, rfl⟩ (by decide) (by first | exact x_rbl b_x4 rfl rfl | exact ⟨by omega, by omega⟩) ?_
      refine x_top (fun z578 e_z578 => ?_)
      have g_z578 : (0 : Int) ≤ s 51 x4.toNat ∧ s 51 x4.toNat ≤ 39 := hG 51 x4.toNat
      have p51_ : s0 51 x4.toNat = z578 := by rw [← f 51 _ (show 768 ∉ [3329, 3334, 3335, 3336, 3392, 3456, 3520, 3584, 3276, 3648, 3712, 3776, 3840, 3904, 3968, 3277, 4032] from by decide)]; exact e_z578.symm
      refine x_A k102_71 (fun _ => rfl) ?_
      refine x_ic_ne k102_72 (t := 91) rfl (by first | exact x_rbe e_z578 g_z578 rfl rfl | exact x_rb g_z578 rfl rfl | exact ⟨by omega, by omega⟩) (by first | exact x_rb b_x1 rfl rfl | exact ⟨by omega, by omega⟩) (fun c579 => ?_) (fun c579 => ?_)
      · skip
        refine x_iinc k102_91 (ls' := [(4, vi (x4 + 1)), (0, .ref 0), (1, vi x1), (2, vi x2), (3, vi x3)]) rfl (by decide) rfl ?_
        refine x_goto k102_94 (t := 49) rfl ?_
        refine x_ls (l := [(0, .ref 0), (1, vi x1), (2, vi x2), (3, vi x3), (4, vi (x4 + 1))]) (show ([0, 1, 2, 3, 4] : List Nat).Nodup from by decide) ⟨rfl, rfl, rfl, rfl, rfl, trivial⟩ ?_
        exact ih s x1 x2 x3 (x4 + 1) x1000 hG f (by first | exact x_rb b_x1 rfl rfl | exact ⟨by omega, by omega⟩) (by first | exact x_rb b_x2 rfl rfl | exact ⟨by omega, by omega⟩) (by first | exact x_rb b_x3 rfl rfl | exact ⟨by omega, by omega⟩) ⟨by omega, by omega⟩ (by first | exact x_rb b_x1000 rfl rfl | exact ⟨by omega, by omega⟩) (by omega) (by omega) (by omega) w_2 w_3 (no_si w_4 (fun q => by have q1 := q.1; omega)) (e_x1000.symm).symm i_VCj i_VCl  (by omega)
      · skip
        refine x_A k102_75 (fun _ => rfl) ?_
        refine x_getR k102_76 (f := 9) rfl (q := 0) (n := 12) (kd := 3) ⟨by decide, rfl⟩ (q2 := 243) (by decide) rfl ?_
        refine x_A k102_79 (fun _ => rfl) ?_
        refine x_A k102_81 (fun _ => rfl) ?_
        refine x_callV k102_82 (y := 81) (n := 2) (w0 := 0) (w1 := 2) (as := [vi x4, vi x2]) (rest := []) (by decide +kernel) (q := 243) (nq := 13) (kq := 13) ⟨by decide, rfl⟩ rfl rfl rfl rfl (xe_mono (E_X8_meansBelow_243 s hG x4 (by first | exact x_rb b_x4 rfl rfl | exact ⟨by omega, by omega⟩) x2 (by first | exact x_rb b_x2 rfl rfl | exact ⟨by omega, by omega⟩)) ?_)
        rintro s581 v ⟨-, t_s581, z580, rfl, g_z580, xp_z580⟩
        rw [t_s581.nil]
        try rw [t_s581.nil] at xp_z580
        show xe none 102 85 [(0, .ref 0), (1, vi x1), (2, vi x2), (3, vi x3), (4, vi x4)] [vi z580] s 0 0 _
        have mb := xp_z580
        rw [show x2 = b by omega, mbP.eq w_2 ve_ w_3 ⟨by omega, by omega⟩ ⟨by omega, by omega⟩] at mb
        refine x_if_eq k102_85 (t := 91) rfl (by first | exact x_rbe e_z580 g_z580 rfl rfl | exact x_rb g_z580 rfl rfl | exact ⟨by omega, by omega⟩) (fun c582 => ?_) (fun c582 => ?_)
        · skip
          refine x_iinc k102_91 (ls' := [(4, vi (x4 + 1)), (0, .ref 0), (1, vi x1), (2, vi x2), (3, vi x3)]) rfl (by decide) rfl ?_
          refine x_goto k102_94 (t := 49) rfl ?_
          refine x_ls (l := [(0, .ref 0), (1, vi x1), (2, vi x2), (3, vi x3), (4, vi (x4 + 1))]) (show ([0, 1, 2, 3, 4] : List Nat).Nodup from by decide) ⟨rfl, rfl, rfl, rfl, rfl, trivial⟩ ?_
          exact ih s x1 x2 x3 (x4 + 1) x1000 hG f (by first | exact x_rb b_x1 rfl rfl | exact ⟨by omega, by omega⟩) (by first | exact x_rb b_x2 rfl rfl | exact ⟨by omega, by omega⟩) (by first | exact x_rb b_x3 rfl rfl | exact ⟨by omega, by omega⟩) ⟨by omega, by omega⟩ (by first | exact x_rb b_x1000 rfl rfl | exact ⟨by omega, by omega⟩) (by omega) (by omega) (by omega) w_2 w_3 (no_si w_4 (fun q => (mb.resolve_left (fun w => by omega)).2 q.2)) (e_x1000.symm).symm i_VCj i_VCl  (by omega)
        · skip
          refine x_A k102_88 (fun _ => rfl) ?_
          exact x_iret k102_90 rfl ⟨hG, f, x4, rfl, (by first | exact x_rb b_x4 rfl rfl | exact ⟨by omega, by omega⟩), (by unfold LdS; exact Or.inr (Or.inr ⟨by omega, by omega, Or.inr ⟨by omega, ⟨by omega, (mb.resolve_right (fun w => by omega)).2⟩, w_4⟩⟩)), i_VCj, i_VCl⟩
set_option maxHeartbeats 8000000 in
theorem W_X10_led_0 (s0 : xS) (hG0 : GI s0) (hJ0 : J s0) (a : Int) (b_a : (-2147483648) ≤ a ∧ a ≤ 2147483647) (b : Int) (b_b : (-2147483648) ≤ b ∧ b ≤ 2147483647) (d : Int) (b_d : (-2147483648) ≤ d ∧ d ≤ 2147483647) (p_46_3 : 0 ≤ s0 46 3 ∧ s0 46 3 ≤ 40) (p_1_4 : 1 ≤ s0 1 4 ∧ s0 1 4 ≤ 40) (p_0_10 : 0 ≤ s0 0 10 ∧ s0 0 10 ≤ 9) (p_50_6 : 0 ≤ s0 50 6 ∧ s0 50 6 ≤ 120) (pR : R1 s0) (i0_VCj : VCj s0) (i0_VCl : VCl s0) : xe none 102 0 (lv_args 0 [.ref 0, vi a, vi b, vi d]) [] s0 0 0 (fun s' v => GI s' ∧ FL [3329, 3334, 3335, 3336, 3392, 3456, 3520, 3584, 3276, 3648, 3712, 3776, 3840, 3904, 3968, 3277, 4032] s0 s' ∧ ∃ z, v = some (vi z) ∧ ((-1004) ≤ z ∧ z ≤ 127) ∧ (LdS s0 a b d z) ∧ VCj s' ∧ VCl s') := by
  have f0 : FL [3329, 3334, 3335, 3336, 3392, 3456, 3520, 3584, 3276, 3648, 3712, 3776, 3840, 3904, 3968, 3277, 4032] s0 s0 := FL.rf
  show xe none 102 0 [(0, .ref 0), (1, vi a), (2, vi b), (3, vi d)] [] s0 0 0 _
  obtain ⟨z583, e_z583⟩ : ∃ z, z = s0 46 3 := ⟨_, rfl⟩
  have g_z583 : (0 : Int) ≤ s0 46 3 ∧ s0 46 3 ≤ 40 := hG0 46 3
  obtain ⟨z584, e_z584⟩ : ∃ z, z = s0 1 4 := ⟨_, rfl⟩
  have g_z584 : (1 : Int) ≤ s0 1 4 ∧ s0 1 4 ≤ 40 := hG0 1 4
  obtain ⟨z585, e_z585⟩ : ∃ z, z = s0 0 10 := ⟨_, rfl⟩
  have g_z585 : (0 : Int) ≤ s0 0 10 ∧ s0 0 10 ≤ 9 := hG0 0 10
  obtain ⟨z586, e_z586⟩ : ∃ z, z = s0 50 6 := ⟨_, rfl⟩
  have g_z586 : (0 : Int) ≤ s0 50 6 ∧ s0 50 6 ≤ 120 := hG0 50 6
  refine x_A k102_0 (fun _ => rfl) ?_
  refine x_getR k102_1 (f := 1) rfl (q := 0) (n := 12) (kd := 3) ⟨by decide, rfl⟩ (q2 := 46) (by decide) rfl ?_
  refine x_A k102_4 (fun _ => rfl) ?_
  refine x_callV k102_5 (y := 29) (n := 1) (w0 := 0) (w1 := 1) (as := [vi a]) (rest := []) (by decide +kernel) (q := 46) (nq := 4) (kq := 5) ⟨by decide, rfl⟩ rfl rfl rfl rfl (xe_mono (C_X3_has_46 s0 hG0 a (by first | exact x_rb b_a rfl rfl | exact ⟨by omega, by omega⟩)) ?_)
  rintro s588 v ⟨h_s588, z587, rfl, hz_z587⟩
  rw [h_s588]
  rcases hz_z587 with ⟨c_z587, e_z587⟩ | ⟨c_z587, e_z587⟩
  · rw [e_z587]
    show xe none 102 8 [(0, .ref 0), (1, vi a), (2, vi b), (3, vi d)] [vi 1] s0 0 0 _
    refine x_if_eq k102_8 (t := 22) rfl ⟨by decide, by decide⟩ (fun c589 => by exfalso; omega) (fun c589 => ?_)
    refine x_A k102_11 (fun _ => rfl) ?_
    refine x_getR k102_12 (f := 0) rfl (q := 0) (n := 12) (kd := 3) ⟨by decide, rfl⟩ (q2 := 1) (by decide) rfl ?_
    refine x_A k102_15 (fun _ => rfl) ?_
    refine x_callV k102_16 (y := 59) (n := 1) (w0 := 0) (w1 := 1) (as := [vi b]) (rest := []) (by decide +kernel) (q := 1) (nq := 5) (kq := 4) ⟨by decide, rfl⟩ rfl rfl rfl rfl (xe_mono (C_X7_has_1 s0 hG0 b (by first | exact x_rb b_b rfl rfl | exact ⟨by omega, by omega⟩)) ?_)
    rintro s591 v ⟨h_s591, z590, rfl, hz_z590⟩
    rw [h_s591]
    rcases hz_z590 with ⟨c_z590, e_z590⟩ | ⟨c_z590, e_z590⟩
    · rw [e_z590]
      show xe none 102 19 [(0, .ref 0), (1, vi a), (2, vi b), (3, vi d)] [vi 1] s0 0 0 _
      refine x_if_ne k102_19 (t := 26) rfl ⟨by decide, by decide⟩ (fun c592 => ?_) (fun c592 => by exfalso; omega)
      refine x_A k102_26 (fun _ => rfl) ?_
      refine x_A k102_27 (fun _ => rfl) ?_
      refine x_callV k102_28 (y := 125) (n := 1) (w0 := 0) (w1 := 1) (as := [vi d]) (rest := []) (by decide +kernel) (q := 0) (nq := 12) (kq := 3) ⟨by decide, rfl⟩ rfl rfl rfl rfl (xe_mono (C_X10_isKnownEdition_0 s0 hG0 d (by first | exact x_rb b_d rfl rfl | exact ⟨by omega, by omega⟩)) ?_)
      rintro s594 v ⟨h_s594, z593, rfl, hz_z593⟩
      rw [h_s594]
      rcases hz_z593 with ⟨c_z593, e_z593⟩ | ⟨c_z593, e_z593⟩
      · rw [e_z593]
        show xe none 102 31 [(0, .ref 0), (1, vi a), (2, vi b), (3, vi d)] [vi 1] s0 0 0 _
        refine x_if_ne k102_31 (t := 38) rfl ⟨by decide, by decide⟩ (fun c595 => ?_) (fun c595 => by exfalso; omega)
        refine x_A k102_38 (fun _ => rfl) ?_
        refine x_getR k102_39 (f := 9) rfl (q := 0) (n := 12) (kd := 3) ⟨by decide, rfl⟩ (q2 := 243) (by decide) rfl ?_
        refine x_A k102_42 (fun _ => rfl) ?_
        refine x_callV k102_43 (y := 76) (n := 1) (w0 := 0) (w1 := 1) (as := [vi d]) (rest := []) (by decide +kernel) (q := 243) (nq := 13) (kq := 13) ⟨by decide, rfl⟩ rfl rfl rfl rfl (xe_mono (E_X8_lookIn_243 s0 hG0 (hJ0.fl f0 (by decide)) d (by first | exact x_rb b_d rfl rfl | exact ⟨by omega, by omega⟩) (pR.fl f0 (by decide)) i0_VCj i0_VCl) ?_)
        rintro s597 v ⟨hG_s597, t_s597, rfl, xp_z596⟩
        have f_s597 : FL [3329, 3334, 3335, 3336, 3392, 3456, 3520, 3584, 3276, 3648, 3712, 3776, 3840, 3904, 3968, 3277, 4032] s0 s597 := f0.tr t_s597 (by decide)
        have q598 : s597 46 3 = z583 := (t_s597 46 3 (show 452 ∉ [3329, 3334, 3335, 3336, 3392, 3456, 3520, 3584, 3276, 3648, 3712, 3776, 3840, 3904, 3968, 3277, 4032] from by decide)).trans e_z583.symm
        have q599 : s597 1 4 = z584 := (t_s597 1 4 (show 69 ∉ [3329, 3334, 3335, 3336, 3392, 3456, 3520, 3584, 3276, 3648, 3712, 3776, 3840, 3904, 3968, 3277, 4032] from by decide)).trans e_z584.symm
        have q600 : s597 0 10 = z585 := (t_s597 0 10 (show 11 ∉ [3329, 3334, 3335, 3336, 3392, 3456, 3520, 3584, 3276, 3648, 3712, 3776, 3840, 3904, 3968, 3277, 4032] from by decide)).trans e_z585.symm
        have q601 : s597 50 6 = z586 := (t_s597 50 6 (show 711 ∉ [3329, 3334, 3335, 3336, 3392, 3456, 3520, 3584, 3276, 3648, 3712, 3776, 3840, 3904, 3968, 3277, 4032] from by decide)).trans e_z586.symm
        obtain ⟨z602, e_z602⟩ : ∃ z, z = s597 243 11 := ⟨_, rfl⟩
        have g_z602 : (0 : Int) ≤ s597 243 11 ∧ s597 243 11 ≤ 1 := hG_s597 243 11
        obtain ⟨z603, e_z603⟩ : ∃ z, z = s597 243 12 := ⟨_, rfl⟩
        have g_z603 : (-1) ≤ s597 243 12 ∧ s597 243 12 ≤ 9 := hG_s597 243 12
        show xe none 102 46 [(0, .ref 0), (1, vi a), (2, vi b), (3, vi d)] [] s597 0 0 _
        have VCj_k : VCj s597 := VCj.judge hG0 t_s597 (by decide) xp_z596.1
        have VCl_k : VCl s597 := VCl.look hG0 t_s597 (by decide) xp_z596.2.1 xp_z596.2.2.1 xp_z596.2.2.2
        have e506_ : s597 50 6 = s0 50 6 := f_s597 50 6 (show 711 ∉ [3329, 3334, 3335, 3336, 3392, 3456, 3520, 3584, 3276, 3648, 3712, 3776, 3840, 3904, 3968, 3277, 4032] from by decide)
        refine x_A k102_46 (fun _ => rfl) ?_
        refine x_istore k102_47 (ls' := [(4, vi 0), (0, .ref 0), (1, vi a), (2, vi b), (3, vi d)]) (by decide) rfl ?_
        refine x_ls (l := [(0, .ref 0), (1, vi a), (2, vi b), (3, vi d), (4, vi 0)]) (show ([0, 1, 2, 3, 4] : List Nat).Nodup from by decide) ⟨rfl, rfl, rfl, rfl, rfl, trivial⟩ ?_
        exact L_W_X10_led_0_49 s0 hJ0 hG0 a b_a b b_b d b_d pR  (((120 - 0) + 1 : Int)).toNat s597 a b d 0 z586 hG_s597 f_s597 (by first | exact x_rb b_a rfl rfl | exact ⟨by omega, by omega⟩) (by first | exact x_rb b_b rfl rfl | exact ⟨by omega, by omega⟩) (by first | exact x_rb b_d rfl rfl | exact ⟨by omega, by omega⟩) ⟨by decide, by decide⟩ (by first | exact x_rbe e_z586 g_z586 rfl rfl | exact x_rb g_z586 rfl rfl | exact ⟨by omega, by omega⟩) (by omega) (by omega) (by omega) xp_z596.2.1 (by omega) (fun i i0 i1 => by omega) (q601).symm VCj_k VCl_k  (by omega)
      · rw [e_z593]
        show xe none 102 31 [(0, .ref 0), (1, vi a), (2, vi b), (3, vi d)] [vi 0] s0 0 0 _
        refine x_if_ne k102_31 (t := 38) rfl ⟨by decide, by decide⟩ (fun c604 => by exfalso; omega) (fun c604 => ?_)
        refine x_sipush k102_34 (by decide +kernel) ?_
        exact x_iret k102_37 rfl ⟨hG0, f0, (-1002), rfl, ⟨by decide, by decide⟩, (by unfold LdS; exact Or.inr (Or.inl ⟨by omega, by omega, rfl⟩)), i0_VCj, i0_VCl⟩
    · rw [e_z590]
      show xe none 102 19 [(0, .ref 0), (1, vi a), (2, vi b), (3, vi d)] [vi 0] s0 0 0 _
      refine x_if_ne k102_19 (t := 26) rfl ⟨by decide, by decide⟩ (fun c605 => by exfalso; omega) (fun c605 => ?_)
      refine x_sipush k102_22 (by decide +kernel) ?_
      exact x_iret k102_25 rfl ⟨hG0, f0, (-1001), rfl, ⟨by decide, by decide⟩, (by unfold LdS; exact Or.inl ⟨by omega, rfl⟩), i0_VCj, i0_VCl⟩
  · rw [e_z587]
    show xe none 102 8 [(0, .ref 0), (1, vi a), (2, vi b), (3, vi d)] [vi 0] s0 0 0 _
    refine x_if_eq k102_8 (t := 22) rfl ⟨by decide, by decide⟩ (fun c606 => ?_) (fun c606 => by exfalso; omega)
    refine x_sipush k102_22 (by decide +kernel) ?_
    exact x_iret k102_25 rfl ⟨hG0, f0, (-1001), rfl, ⟨by decide, by decide⟩, (by unfold LdS; exact Or.inl ⟨by omega, rfl⟩), i0_VCj, i0_VCl⟩
set_option maxHeartbeats 8000000 in
theorem L_W_X11_led_256_40 (s0 : xS) (hJ0 : J s0) (hG0 : GI s0) (a : Int) (b_a : (-2147483648) ≤ a ∧ a ≤ 2147483647) (b : Int) (b_b : (-2147483648) ≤ b ∧ b ≤ 2147483647) (d : Int) (b_d : (-2147483648) ≤ d ∧ d ≤ 2147483647) (pR : R1 s0) (pT : TR s0) (pG1 : G1 s0) (pG3 : G3 s0)  : ∀ (n : Nat) (s : xS) (x1 : Int) (x2 : Int) (x3 : Int) (x4 : Int) (x1000 : Int) (hG : GI s) (f : FL [5312, 5376, 4123, 5440, 5504, 5568, 5632, 5696, 5760] s0 s) (b_x1 : 0 ≤ x1 ∧ x1 ≤ 39) (b_x2 : 0 ≤ x2 ∧ x2 ≤ 39) (b_x3 : 0 ≤ x3 ∧ x3 ≤ 9) (b_x4 : 0 ≤ x4 ∧ x4 ≤ 120) (b_x1000 : 0 ≤ x1000 ∧ x1000 ≤ 120) (r_4_1000 : x4 ≤ x1000 + 0) (w_0 : x1 = a ∧ x2 = b ∧ x3 = d ∧ x1000 = s0 256 10 ∧ x4 ≤ x1000) (w_1 : 0 ≤ a ∧ a < s0 256 6 ∧ 0 ≤ b ∧ b < s0 256 1 ∧ 0 ≤ d ∧ d ≤ s0 256 0) (w_2 : FdZ s s0 d) (w_3 : ∀ i : Int, 0 ≤ i → i < x4 → ¬ ldP s0 a b d i) (e_x1000 : x1000 = s 256 10)  (hm : (120 - x4) < (n : Int)), xe none 173 40 [(0, .ref 256), (1, vi x1), (2, vi x2), (3, vi x3), (4, vi x4)] [] s 0 0 (fun s' v => GI s' ∧ FL [5312, 5376, 4123, 5440, 5504, 5568, 5632, 5696, 5760] s0 s' ∧ ∃ z, v = some (vi z) ∧ ((-1004) ≤ z ∧ z ≤ 120) ∧ (LdS s0 a b d z)) := by
  intro n
  induction n with
  | zero => intro s x1 x2 x3 x4 x1000 hG f b_x1 b_x2 b_x3 b_x4 b_x1000 r_4_1000 w_0 w_1 w_2 w_3 e_x1000  hm; exfalso; omega
  | succ n ih =>
    intro s x1 x2 x3 x4 x1000 hG f b_x1 b_x2 b_x3 b_x4 b_x1000 r_4_1000 w_0 w_1 w_2 w_3 e_x1000  hm
    refine x_A k173_40 (fun _ => rfl) ?_
    refine x_A k173_42 (fun _ => rfl) ?_
    refine x_getI k173_43 (f := 10) rfl (q := 256) (n := 62) (kd := 15) ⟨by decide, rfl⟩ (by decide) rfl ?_
    refine x_rw (e_x1000.symm) ?_
    refine x_ic_ge k173_46 (t := 95) rfl (by first | exact x_rb b_x4 rfl rfl | exact ⟨by omega, by omega⟩) (by first | exact x_rb b_x1000 rfl rfl | exact ⟨by omega, by omega⟩) (fun c579 => ?_) (fun c579 => ?_)
    · skip
      refine x_A k173_95 (fun _ => rfl) ?_
      exact x_iret k173_96 rfl ⟨hG, f, (-1), rfl, ⟨by decide, by decide⟩, (by have q1 := pG1.1; have q0 := pT.1.1; have q2 := pT.1.2.1; have q3 := pG3.1; unfold LdS; exact Or.inr (Or.inr ⟨by omega, by omega, Or.inl ⟨rfl, fun i i0 i1 => w_3 i i0 (by omega)⟩⟩))⟩
    · skip
      refine x_A k173_49 (fun _ => rfl) ?_
      refine x_getR k173_50 (f := 11) rfl (q := 256) (n := 62) (kd := 15) ⟨by decide, rfl⟩ (q2 := 264) (by decide) rfl ?_
      refine x_A k173_53 (fun _ => rfl) ?_
      refine x_iald k173_55 (q := 264) (n := 120) ⟨by decide, rfl⟩ (by decide) (by first | exact x_rbl b_x4 rfl rfl | exact ⟨by omega, by omega⟩) ?_
      refine x_top (fun z580 e_z580 => ?_)
      have g_z580 : (0 : Int) ≤ s 264 x4.toNat ∧ s 264 x4.toNat ≤ 39 := hG 264 x4.toNat
      have p51_ : s0 51 x4.toNat = z580 := by rw [(pG3.2 x4 (by omega) (by omega) (by have q := pG1.1; omega)).1.1, ← f 264 _ (show 4608 ∉ [5312, 5376, 4123, 5440, 5504, 5568, 5632, 5696, 5760] from by decide)]; exact e_z580.symm
      refine x_A k173_56 (fun _ => rfl) ?_
      refine x_ic_ne k173_57 (t := 89) rfl (by first | exact x_rbe e_z580 g_z580 rfl rfl | exact x_rb g_z580 rfl rfl | exact ⟨by omega, by omega⟩) (by first | exact x_rb b_x1 rfl rfl | exact ⟨by omega, by omega⟩) (fun c581 => ?_) (fun c581 => ?_)
      · skip
        refine x_iinc k173_89 (ls' := [(4, vi (x4 + 1)), (0, .ref 256), (1, vi x1), (2, vi x2), (3, vi x3)]) rfl (by decide) rfl ?_
        refine x_goto k173_92 (t := 40) rfl ?_
        refine x_ls (l := [(0, .ref 256), (1, vi x1), (2, vi x2), (3, vi x3), (4, vi (x4 + 1))]) (show ([0, 1, 2, 3, 4] : List Nat).Nodup from by decide) ⟨rfl, rfl, rfl, rfl, rfl, trivial⟩ ?_
        exact ih s x1 x2 x3 (x4 + 1) x1000 hG f (by first | exact x_rb b_x1 rfl rfl | exact ⟨by omega, by omega⟩) (by first | exact x_rb b_x2 rfl rfl | exact ⟨by omega, by omega⟩) (by first | exact x_rb b_x3 rfl rfl | exact ⟨by omega, by omega⟩) ⟨by omega, by omega⟩ (by first | exact x_rb b_x1000 rfl rfl | exact ⟨by omega, by omega⟩) (by omega) (by omega) (by omega) w_2 (no_si w_3 (fun q => by have q1 := q.1; omega)) (e_x1000.symm).symm  (by omega)
      · skip
        refine x_A k173_60 (fun _ => rfl) ?_
        refine x_getR k173_61 (f := 30) rfl (q := 256) (n := 62) (kd := 15) ⟨by decide, rfl⟩ (q2 := 280) (by decide) rfl ?_
        refine x_A k173_64 (fun _ => rfl) ?_
        refine x_iald k173_66 (q := 280) (n := 120) ⟨by decide, rfl⟩ (by decide) (by first | exact x_rbl b_x4 rfl rfl | exact ⟨by omega, by omega⟩) ?_
        refine x_top (fun z582 e_z582 => ?_)
        have g_z582 : (-1) ≤ s 280 x4.toNat ∧ s 280 x4.toNat ≤ 39 := hG 280 x4.toNat
        have pg_ := pG1.1
        have mz_ : z582 = meC s0 d x4 := (e_z582.symm).symm.trans (w_2.me ⟨by omega, by omega⟩).1
        refine x_if_lt k173_67 (t := 89) rfl (by first | exact x_rbe e_z582 g_z582 rfl rfl | exact x_rb g_z582 rfl rfl | exact ⟨by omega, by omega⟩) (fun c583 => ?_) (fun c583 => ?_)
        · skip
          refine x_iinc k173_89 (ls' := [(4, vi (x4 + 1)), (0, .ref 256), (1, vi x1), (2, vi x2), (3, vi x3)]) rfl (by decide) rfl ?_
          refine x_goto k173_92 (t := 40) rfl ?_
          refine x_ls (l := [(0, .ref 256), (1, vi x1), (2, vi x2), (3, vi x3), (4, vi (x4 + 1))]) (show ([0, 1, 2, 3, 4] : List Nat).Nodup from by decide) ⟨rfl, rfl, rfl, rfl, rfl, trivial⟩ ?_
          exact ih s x1 x2 x3 (x4 + 1) x1000 hG f (by first | exact x_rb b_x1 rfl rfl | exact ⟨by omega, by omega⟩) (by first | exact x_rb b_x2 rfl rfl | exact ⟨by omega, by omega⟩) (by first | exact x_rb b_x3 rfl rfl | exact ⟨by omega, by omega⟩) ⟨by omega, by omega⟩ (by first | exact x_rb b_x1000 rfl rfl | exact ⟨by omega, by omega⟩) (by omega) (by omega) (by omega) w_2 (no_si w_3 (fun q => by have q1 := q.2.1; omega)) (e_x1000.symm).symm  (by omega)
        · skip
          have pg_ := pG1.1
          have me_ : z582 = meC s0 d x4 := (e_z582.symm).symm.trans (w_2.me ⟨by omega, by omega⟩).1
          have td_ : tdC s0 d (meC s0 d x4) := pT.mtd pG3 hJ0 hG0 ⟨by omega, by omega⟩ ⟨by omega, by omega⟩ (by omega)
          refine x_A k173_70 (fun _ => rfl) ?_
          refine x_A k173_71 (fun _ => rfl) ?_
          refine x_getR k173_72 (f := 30) rfl (q := 256) (n := 62) (kd := 15) ⟨by decide, rfl⟩ (q2 := 280) (by decide) rfl ?_
          refine x_A k173_75 (fun _ => rfl) ?_
          refine x_iald k173_77 (q := 280) (n := 120) ⟨by decide, rfl⟩ (by decide) (by first | exact x_rbl b_x4 rfl rfl | exact ⟨by omega, by omega⟩) ?_
          refine x_rw (e_z582.symm) ?_
          refine x_A k173_78 (fun _ => rfl) ?_
          refine x_A k173_79 (fun _ => rfl) ?_
          refine x_callV k173_80 (y := 143) (n := 3) (w0 := 0) (w1 := 3) (as := [vi z582, vi x2, vi x3]) (rest := []) (by decide +kernel) (q := 256) (nq := 62) (kq := 15) ⟨by decide, rfl⟩ rfl rfl rfl rfl (xe_mono (E_X11_isBelow_256 s hG (hJ0.fl f (by decide)) z582 (by first | exact x_rbe e_z582 g_z582 rfl rfl | exact x_rb g_z582 rfl rfl | exact ⟨by omega, by omega⟩) x2 (by first | exact x_rb b_x2 rfl rfl | exact ⟨by omega, by omega⟩) x3 (by first | exact x_rb b_x3 rfl rfl | exact ⟨by omega, by omega⟩)) ?_)
          rintro s585 v ⟨-, t_s585, z584, rfl, g_z584, xp_z584⟩
          rw [t_s585.nil]
          try rw [t_s585.nil] at xp_z584
          show xe none 173 83 [(0, .ref 256), (1, vi x1), (2, vi x2), (3, vi x3), (4, vi x4)] [vi z584] s 0 0 _
          have be := xp_z584
          have f57_ : s 257 = s0 257 := funext fun i => f 257 i (show 4160 ∉ [5312, 5376, 4123, 5440, 5504, 5568, 5632, 5696, 5760] from by decide)
          have f60_ : s 260 = s0 260 := funext fun i => f 260 i (show 4352 ∉ [5312, 5376, 4123, 5440, 5504, 5568, 5632, 5696, 5760] from by decide)
          have f1_ : s 256 1 = s0 256 1 := f 256 1 (show 4098 ∉ [5312, 5376, 4123, 5440, 5504, 5568, 5632, 5696, 5760] from by decide)
          rw [f57_, f1_] at be
          simp only [xup_eq f60_] at be
          rw [me_, show x2 = b by omega, show x3 = d by omega, TR.bel pT hJ0 hG0 ⟨by omega, by omega⟩ td_ (by omega)] at be
          refine x_if_eq k173_83 (t := 89) rfl (by first | exact x_rbe e_z584 g_z584 rfl rfl | exact x_rb g_z584 rfl rfl | exact ⟨by omega, by omega⟩) (fun c586 => ?_) (fun c586 => ?_)
          · skip
            refine x_iinc k173_89 (ls' := [(4, vi (x4 + 1)), (0, .ref 256), (1, vi x1), (2, vi x2), (3, vi x3)]) rfl (by decide) rfl ?_
            refine x_goto k173_92 (t := 40) rfl ?_
            refine x_ls (l := [(0, .ref 256), (1, vi x1), (2, vi x2), (3, vi x3), (4, vi (x4 + 1))]) (show ([0, 1, 2, 3, 4] : List Nat).Nodup from by decide) ⟨rfl, rfl, rfl, rfl, rfl, trivial⟩ ?_
            exact ih s x1 x2 x3 (x4 + 1) x1000 hG f (by first | exact x_rb b_x1 rfl rfl | exact ⟨by omega, by omega⟩) (by first | exact x_rb b_x2 rfl rfl | exact ⟨by omega, by omega⟩) (by first | exact x_rb b_x3 rfl rfl | exact ⟨by omega, by omega⟩) ⟨by omega, by omega⟩ (by first | exact x_rb b_x1000 rfl rfl | exact ⟨by omega, by omega⟩) (by omega) (by omega) (by omega) w_2 (no_si w_3 (fun q => (be.resolve_left (fun w => by omega)).2 q.2.2)) (e_x1000.symm).symm  (by omega)
          · skip
            refine x_A k173_86 (fun _ => rfl) ?_
            exact x_iret k173_88 rfl ⟨hG, f, x4, rfl, (by first | exact x_rb b_x4 rfl rfl | exact ⟨by omega, by omega⟩), (by have q1 := pG1.1; have q0 := pT.1.1; have q2 := pT.1.2.1; have q3 := pG3.1; unfold LdS; exact Or.inr (Or.inr ⟨by omega, by omega, Or.inr ⟨by omega, ⟨by omega, by omega, (be.resolve_right (fun w => by omega)).2⟩, w_3⟩⟩))⟩
set_option maxHeartbeats 8000000 in
theorem W_X11_led_256 (s0 : xS) (hG0 : GI s0) (hJ0 : J s0) (a : Int) (b_a : (-2147483648) ≤ a ∧ a ≤ 2147483647) (b : Int) (b_b : (-2147483648) ≤ b ∧ b ≤ 2147483647) (d : Int) (b_d : (-2147483648) ≤ d ∧ d ≤ 2147483647) (p_256_6 : 0 ≤ s0 256 6 ∧ s0 256 6 ≤ 40) (p_256_1 : 1 ≤ s0 256 1 ∧ s0 256 1 ≤ 40) (p_256_0 : 0 ≤ s0 256 0 ∧ s0 256 0 ≤ 9) (p_256_10 : 0 ≤ s0 256 10 ∧ s0 256 10 ≤ 120) (pR : R1 s0) (pT : TR s0) (pG1 : G1 s0) (pG3 : G3 s0) : xe none 173 0 (lv_args 0 [.ref 256, vi a, vi b, vi d]) [] s0 0 0 (fun s' v => GI s' ∧ FL [5312, 5376, 4123, 5440, 5504, 5568, 5632, 5696, 5760] s0 s' ∧ ∃ z, v = some (vi z) ∧ ((-1004) ≤ z ∧ z ≤ 120) ∧ (LdS s0 a b d z)) := by
  have f0 : FL [5312, 5376, 4123, 5440, 5504, 5568, 5632, 5696, 5760] s0 s0 := FL.rf
  show xe none 173 0 [(0, .ref 256), (1, vi a), (2, vi b), (3, vi d)] [] s0 0 0 _
  obtain ⟨z587, e_z587⟩ : ∃ z, z = s0 256 6 := ⟨_, rfl⟩
  have g_z587 : (0 : Int) ≤ s0 256 6 ∧ s0 256 6 ≤ 40 := hG0 256 6
  obtain ⟨z588, e_z588⟩ : ∃ z, z = s0 256 1 := ⟨_, rfl⟩
  have g_z588 : (1 : Int) ≤ s0 256 1 ∧ s0 256 1 ≤ 40 := hG0 256 1
  obtain ⟨z589, e_z589⟩ : ∃ z, z = s0 256 0 := ⟨_, rfl⟩
  have g_z589 : (0 : Int) ≤ s0 256 0 ∧ s0 256 0 ≤ 9 := hG0 256 0
  obtain ⟨z590, e_z590⟩ : ∃ z, z = s0 256 10 := ⟨_, rfl⟩
  have g_z590 : (0 : Int) ≤ s0 256 10 ∧ s0 256 10 ≤ 120 := hG0 256 10
  refine x_A k173_0 (fun _ => rfl) ?_
  refine x_A k173_1 (fun _ => rfl) ?_
  refine x_callV k173_2 (y := 151) (n := 1) (w0 := 0) (w1 := 1) (as := [vi a]) (rest := []) (by decide +kernel) (q := 256) (nq := 62) (kq := 15) ⟨by decide, rfl⟩ rfl rfl rfl rfl (xe_mono (C_X11_isPicture_256 s0 hG0 a (by first | exact x_rb b_a rfl rfl | exact ⟨by omega, by omega⟩)) ?_)
  rintro s592 v ⟨h_s592, z591, rfl, hz_z591⟩
  rw [h_s592]
  rcases hz_z591 with ⟨c_z591, e_z591⟩ | ⟨c_z591, e_z591⟩
  · rw [e_z591]
    show xe none 173 5 [(0, .ref 256), (1, vi a), (2, vi b), (3, vi d)] [vi 1] s0 0 0 _
    refine x_if_eq k173_5 (t := 16) rfl ⟨by decide, by decide⟩ (fun c593 => by exfalso; omega) (fun c593 => ?_)
    refine x_A k173_8 (fun _ => rfl) ?_
    refine x_A k173_9 (fun _ => rfl) ?_
    refine x_callV k173_10 (y := 137) (n := 1) (w0 := 0) (w1 := 1) (as := [vi b]) (rest := []) (by decide +kernel) (q := 256) (nq := 62) (kq := 15) ⟨by decide, rfl⟩ rfl rfl rfl rfl (xe_mono (C_X11_isMark_256 s0 hG0 b (by first | exact x_rb b_b rfl rfl | exact ⟨by omega, by omega⟩)) ?_)
    rintro s595 v ⟨h_s595, z594, rfl, hz_z594⟩
    rw [h_s595]
    rcases hz_z594 with ⟨c_z594, e_z594⟩ | ⟨c_z594, e_z594⟩
    · rw [e_z594]
      show xe none 173 13 [(0, .ref 256), (1, vi a), (2, vi b), (3, vi d)] [vi 1] s0 0 0 _
      refine x_if_ne k173_13 (t := 20) rfl ⟨by decide, by decide⟩ (fun c596 => ?_) (fun c596 => by exfalso; omega)
      refine x_A k173_20 (fun _ => rfl) ?_
      refine x_A k173_21 (fun _ => rfl) ?_
      refine x_callV k173_22 (y := 138) (n := 1) (w0 := 0) (w1 := 1) (as := [vi d]) (rest := []) (by decide +kernel) (q := 256) (nq := 62) (kq := 15) ⟨by decide, rfl⟩ rfl rfl rfl rfl (xe_mono (C_X11_isEdition_256 s0 hG0 d (by first | exact x_rb b_d rfl rfl | exact ⟨by omega, by omega⟩)) ?_)
      rintro s598 v ⟨h_s598, z597, rfl, hz_z597⟩
      rw [h_s598]
      rcases hz_z597 with ⟨c_z597, e_z597⟩ | ⟨c_z597, e_z597⟩
      · rw [e_z597]
        show xe none 173 25 [(0, .ref 256), (1, vi a), (2, vi b), (3, vi d)] [vi 1] s0 0 0 _
        refine x_if_ne k173_25 (t := 32) rfl ⟨by decide, by decide⟩ (fun c599 => ?_) (fun c599 => by exfalso; omega)
        refine x_A k173_32 (fun _ => rfl) ?_
        refine x_A k173_33 (fun _ => rfl) ?_
        refine x_callV k173_34 (y := 168) (n := 1) (w0 := 0) (w1 := 1) (as := [vi d]) (rest := []) (by decide +kernel) (q := 256) (nq := 62) (kq := 15) ⟨by decide, rfl⟩ rfl rfl rfl rfl (xe_mono (E_X11_find_256 s0 hG0 (hJ0.fl f0 (by decide)) d (by first | exact x_rb b_d rfl rfl | exact ⟨by omega, by omega⟩) (pR.fl f0 (by decide)) (pT.fl (hG0 256 1).2 f0 (by decide)) (pG1.fl f0 (by decide)) (pG3.fl f0 (by decide))) ?_)
        rintro s601 v ⟨hG_s601, t_s601, rfl, xp_z600⟩
        have f_s601 : FL [5312, 5376, 4123, 5440, 5504, 5568, 5632, 5696, 5760] s0 s601 := f0.tr t_s601 (by decide)
        have q602 : s601 256 6 = z587 := (t_s601 256 6 (show 4103 ∉ [5312, 5376, 4123, 5440, 5504, 5568, 5632, 5696, 5760] from by decide)).trans e_z587.symm
        have q603 : s601 256 1 = z588 := (t_s601 256 1 (show 4098 ∉ [5312, 5376, 4123, 5440, 5504, 5568, 5632, 5696, 5760] from by decide)).trans e_z588.symm
        have q604 : s601 256 0 = z589 := (t_s601 256 0 (show 4097 ∉ [5312, 5376, 4123, 5440, 5504, 5568, 5632, 5696, 5760] from by decide)).trans e_z589.symm
        have q605 : s601 256 10 = z590 := (t_s601 256 10 (show 4107 ∉ [5312, 5376, 4123, 5440, 5504, 5568, 5632, 5696, 5760] from by decide)).trans e_z590.symm
        show xe none 173 37 [(0, .ref 256), (1, vi a), (2, vi b), (3, vi d)] [] s601 0 0 _
        have e10_ : s601 256 10 = s0 256 10 := f_s601 256 10 (show 4107 ∉ [5312, 5376, 4123, 5440, 5504, 5568, 5632, 5696, 5760] from by decide)
        refine x_A k173_37 (fun _ => rfl) ?_
        refine x_istore k173_38 (ls' := [(4, vi 0), (0, .ref 256), (1, vi a), (2, vi b), (3, vi d)]) (by decide) rfl ?_
        refine x_ls (l := [(0, .ref 256), (1, vi a), (2, vi b), (3, vi d), (4, vi 0)]) (show ([0, 1, 2, 3, 4] : List Nat).Nodup from by decide) ⟨rfl, rfl, rfl, rfl, rfl, trivial⟩ ?_
        exact L_W_X11_led_256_40 s0 hJ0 hG0 a b_a b b_b d b_d pR pT pG1 pG3  (((120 - 0) + 1 : Int)).toNat s601 a b d 0 z590 hG_s601 f_s601 (by first | exact x_rb b_a rfl rfl | exact ⟨by omega, by omega⟩) (by first | exact x_rb b_b rfl rfl | exact ⟨by omega, by omega⟩) (by first | exact x_rb b_d rfl rfl | exact ⟨by omega, by omega⟩) ⟨by decide, by decide⟩ (by first | exact x_rbe e_z590 g_z590 rfl rfl | exact x_rb g_z590 rfl rfl | exact ⟨by omega, by omega⟩) (by omega) (by omega) (by omega) xp_z600 (fun i i0 i1 => by omega) (q605).symm  (by omega)
      · rw [e_z597]
        show xe none 173 25 [(0, .ref 256), (1, vi a), (2, vi b), (3, vi d)] [vi 0] s0 0 0 _
        refine x_if_ne k173_25 (t := 32) rfl ⟨by decide, by decide⟩ (fun c606 => by exfalso; omega) (fun c606 => ?_)
        refine x_sipush k173_28 (by decide +kernel) ?_
        exact x_iret k173_31 rfl ⟨hG0, f0, (-1002), rfl, ⟨by decide, by decide⟩, (by have q1 := pG1.1; have q0 := pT.1.1; have q2 := pT.1.2.1; have q3 := pG3.1; unfold LdS; exact Or.inr (Or.inl ⟨by omega, by omega, rfl⟩))⟩
    · rw [e_z594]
      show xe none 173 13 [(0, .ref 256), (1, vi a), (2, vi b), (3, vi d)] [vi 0] s0 0 0 _
      refine x_if_ne k173_13 (t := 20) rfl ⟨by decide, by decide⟩ (fun c607 => by exfalso; omega) (fun c607 => ?_)
      refine x_sipush k173_16 (by decide +kernel) ?_
      exact x_iret k173_19 rfl ⟨hG0, f0, (-1001), rfl, ⟨by decide, by decide⟩, (by have q1 := pG1.1; have q0 := pT.1.1; have q2 := pT.1.2.1; have q3 := pG3.1; unfold LdS; exact Or.inl ⟨by omega, rfl⟩)⟩
  · rw [e_z591]
    show xe none 173 5 [(0, .ref 256), (1, vi a), (2, vi b), (3, vi d)] [vi 0] s0 0 0 _
    refine x_if_eq k173_5 (t := 16) rfl ⟨by decide, by decide⟩ (fun c608 => ?_) (fun c608 => by exfalso; omega)
    refine x_sipush k173_16 (by decide +kernel) ?_
    exact x_iret k173_19 rfl ⟨hG0, f0, (-1001), rfl, ⟨by decide, by decide⟩, (by have q1 := pG1.1; have q0 := pT.1.1; have q2 := pT.1.2.1; have q3 := pG3.1; unfold LdS; exact Or.inl ⟨by omega, rfl⟩)⟩
