set_option maxHeartbeats 8000000 in
theorem L_W_X10_of_0_75 (s0 : xS) (hJ0 : J s0) (hG0 : GI s0) (a : Int) (b_a : (-2147483648) ≤ a ∧ a ≤ 2147483647) (b : Int) (b_b : (-2147483648) ≤ b ∧ b ≤ 2147483647) (d : Int) (b_d : (-2147483648) ≤ d ∧ d ≤ 2147483647) (e : Int) (b_e : (-2147483648) ≤ e ∧ e ≤ 2147483647) (pR : R1 s0)  : ∀ (n : Nat) (s : xS) (x1 : Int) (x2 : Int) (x3 : Int) (x4 : Int) (x5 : Int) (x6 : Int) (x7 : Int) (hG : GI s) (f : FL [3329, 3334, 3335, 3336, 3392, 3456, 3520, 3584, 3276, 3648, 3712, 3776, 3840, 3904, 3968, 3277, 4032] s0 s) (b_x1 : 0 ≤ x1 ∧ x1 ≤ 39) (b_x2 : 0 ≤ x2 ∧ x2 ≤ 3) (b_x3 : 0 ≤ x3 ∧ x3 ≤ 9) (b_x4 : 0 ≤ x4 ∧ x4 ≤ 2) (b_x5 : 0 ≤ x5 ∧ x5 ≤ 5) (b_x6 : (-1) ≤ x6 ∧ x6 ≤ 4) (b_x7 : (-1) ≤ x7 ∧ x7 ≤ 4) (w_0 : x1 = a ∧ x2 = b ∧ x3 = d ∧ x4 = e ∧ -1 ≤ x7 ∧ x5 + x7 ≤ 4 ∧ 0 ≤ x5 ∧ x7 < s0 232 b.toNat) (w_1 : ((0 ≤ a ∧ a < s0 46 3) ∧ 0 ≤ b ∧ b < s0 231 3) ∧ (0 ≤ d ∧ d ≤ s0 0 10) ∧ 0 ≤ e ∧ e ≤ 2) (w_2 : VL s s0 d) (w_3 : x5 + ctp (fun i : Nat => ofP s0 d a b (i : Int)) (x7 + 1).toNat = ofN s0 d a b (s0 232 b.toNat).toNat) (w_4 : ofD s0 d a b (s0 232 b.toNat) x7 x6) (i_VCj : VCj s) (i_VCl : VCl s)  (hm : (x7 - (-1)) < (n : Int)), xe none 119 75 [(0, .ref 0), (1, vi x1), (2, vi x2), (3, vi x3), (4, vi x4), (5, vi x5), (6, vi x6), (7, vi x7)] [] s 0 0 (fun s' v => GI s' ∧ FL [3329, 3334, 3335, 3336, 3392, 3456, 3520, 3584, 3276, 3648, 3712, 3776, 3840, 3904, 3968, 3277, 4032] s0 s' ∧ ∃ z, v = some (vi z) ∧ ((-2147483648) ≤ z ∧ z ≤ 2147483647) ∧ (OfS s0 a b d e z) ∧ VCj s' ∧ VCl s') := by
  intro n
  induction n with
  | zero => intro s x1 x2 x3 x4 x5 x6 x7 hG f b_x1 b_x2 b_x3 b_x4 b_x5 b_x6 b_x7 w_0 w_1 w_2 w_3 w_4 i_VCj i_VCl  hm; exfalso; omega
  | succ n ih =>
    intro s x1 x2 x3 x4 x5 x6 x7 hG f b_x1 b_x2 b_x3 b_x4 b_x5 b_x6 b_x7 w_0 w_1 w_2 w_3 w_4 i_VCj i_VCl  hm
    refine x_A k119_75 (fun _ => rfl) ?_
    refine x_if_lt k119_77 (t := 127) rfl ⟨by omega, by omega⟩ (fun c211 => ?_) (fun c211 => ?_)
    · skip
      refine x_A k119_127 (fun _ => rfl) ?_
      have c212 : x4 = 0 ∨ x4 = 1 ∨ x4 = 2 := by omega
      rcases c212 with c212 | c212 | c212
      · rw [c212]
        refine x_B k119_129 rfl (fun _ => rfl) (fun _ => rfl) (fun _ _ => rfl) ?_
        show xe none 119 156 [(0, .ref 0), (1, vi x1), (2, vi x2), (3, vi x3), (4, vi 0), (5, vi x5), (6, vi x6), (7, vi x7)] [] s 0 0 _
        refine x_A k119_156 (fun _ => rfl) ?_
        exact x_iret k119_158 rfl ⟨hG, f, x5, rfl, ⟨by omega, by omega⟩, (by have cn : x5 = ofN s0 d a b (s0 232 b.toNat).toNat := (by have q := w_3; rw [show (x7 + 1).toNat = 0 by omega] at q; have q2 : ctp (fun i : Nat => ofP s0 d a b (i : Int)) 0 = 0 := rfl; unfold ofN at q ⊢; omega); exact Or.inr (Or.inr ⟨by omega, by omega, (fun _ => cn), (fun q => by exfalso; omega), (fun q => by exfalso; omega)⟩)), i_VCj, i_VCl⟩
      · rw [c212]
        refine x_B k119_129 rfl (fun _ => rfl) (fun _ => rfl) (fun _ _ => rfl) ?_
        show xe none 119 159 [(0, .ref 0), (1, vi x1), (2, vi x2), (3, vi x3), (4, vi 1), (5, vi x5), (6, vi x6), (7, vi x7)] [] s 0 0 _
        refine x_A k119_159 (fun _ => rfl) ?_
        exact x_iret k119_161 rfl ⟨hG, f, x6, rfl, ⟨by omega, by omega⟩, (by have cn : x5 = ofN s0 d a b (s0 232 b.toNat).toNat := (by have q := w_3; rw [show (x7 + 1).toNat = 0 by omega] at q; have q2 : ctp (fun i : Nat => ofP s0 d a b (i : Int)) 0 = 0 := rfl; unfold ofN at q ⊢; omega); exact Or.inr (Or.inr ⟨by omega, by omega, (fun q => by exfalso; omega), (fun _ => ofD.fin w_4 (by omega)), (fun q => by exfalso; omega)⟩)), i_VCj, i_VCl⟩
      · rw [c212]
        refine x_B k119_129 rfl (fun _ => rfl) (fun _ => rfl) (fun _ _ => rfl) ?_
        show xe none 119 162 [(0, .ref 0), (1, vi x1), (2, vi x2), (3, vi x3), (4, vi 2), (5, vi x5), (6, vi x6), (7, vi x7)] [] s 0 0 _
        refine x_A k119_162 (fun _ => rfl) ?_
        refine x_A k119_164 (fun _ => rfl) ?_
        refine x_ic_ne k119_165 (t := 172) rfl ⟨by omega, by omega⟩ ⟨by omega, by omega⟩ (fun c213 => ?_) (fun c213 => ?_)
        · skip
          refine x_A k119_172 (fun _ => rfl) ?_
          refine x_callS k119_173 (y := 126) (n := 1) (w0 := 0) (w1 := 1) (as := [vi 0]) (rest := []) (by decide +kernel) rfl rfl rfl rfl (xe_mono (E_X10_oneIf s hG 0 ⟨by omega, by omega⟩) ?_)
          rintro s215 v ⟨-, t_s215, z214, rfl, g_z214, xp_z214⟩
          rw [t_s215.nil]
          try rw [t_s215.nil] at xp_z214
          show xe none 119 176 [(0, .ref 0), (1, vi x1), (2, vi x2), (3, vi x3), (4, vi 2), (5, vi x5), (6, vi x6), (7, vi x7)] [vi z214] s 0 0 _
          exact x_iret k119_176 rfl ⟨hG, f, z214, rfl, ⟨by omega, by omega⟩, (by have cn : x5 = ofN s0 d a b (s0 232 b.toNat).toNat := (by have q := w_3; rw [show (x7 + 1).toNat = 0 by omega] at q; have q2 : ctp (fun i : Nat => ofP s0 d a b (i : Int)) 0 = 0 := rfl; unfold ofN at q ⊢; omega); exact Or.inr (Or.inr ⟨by omega, by omega, (fun q => by exfalso; omega), (fun q => by exfalso; omega), (fun _ => by rw [← cn]; show z214 = _; exact pIf_b (by omega))⟩)), i_VCj, i_VCl⟩
        · skip
          refine x_A k119_168 (fun _ => rfl) ?_
          refine x_goto k119_169 (t := 173) rfl ?_
          refine x_callS k119_173 (y := 126) (n := 1) (w0 := 0) (w1 := 1) (as := [vi 1]) (rest := []) (by decide +kernel) rfl rfl rfl rfl (xe_mono (E_X10_oneIf s hG 1 ⟨by omega, by omega⟩) ?_)
          rintro s217 v ⟨-, t_s217, z216, rfl, g_z216, xp_z216⟩
          rw [t_s217.nil]
          try rw [t_s217.nil] at xp_z216
          show xe none 119 176 [(0, .ref 0), (1, vi x1), (2, vi x2), (3, vi x3), (4, vi 2), (5, vi x5), (6, vi x6), (7, vi x7)] [vi z216] s 0 0 _
          exact x_iret k119_176 rfl ⟨hG, f, z216, rfl, ⟨by omega, by omega⟩, (by have cn : x5 = ofN s0 d a b (s0 232 b.toNat).toNat := (by have q := w_3; rw [show (x7 + 1).toNat = 0 by omega] at q; have q2 : ctp (fun i : Nat => ofP s0 d a b (i : Int)) 0 = 0 := rfl; unfold ofN at q ⊢; omega); exact Or.inr (Or.inr ⟨by omega, by omega, (fun q => by exfalso; omega), (fun q => by exfalso; omega), (fun _ => by rw [← cn]; show z216 = _; exact pIf_b (by omega))⟩)), i_VCj, i_VCl⟩
    · skip
      refine x_A k119_80 (fun _ => rfl) ?_
      refine x_getR k119_81 (f := 8) rfl (q := 0) (n := 12) (kd := 3) ⟨by decide, rfl⟩ (q2 := 231) (by decide) rfl ?_
      refine x_getR k119_84 (f := 2) rfl (q := 231) (n := 4) (kd := 12) ⟨by decide, rfl⟩ (q2 := 238) (by decide) rfl ?_
      refine x_A k119_87 (fun _ => rfl) ?_
      refine x_aald k119_88 (q := 238) (t := 24) (n := 4) ⟨by decide, rfl⟩ (by decide) (by decide) ⟨by omega, by omega⟩ ?_
      refine x_A k119_89 (fun _ => rfl) ?_
      refine x_lald k119_91 (q := (238 + 1 + x2.toNat)) (n := 5) (xg_239 (by omega) (by omega)) (by decide) ⟨by omega, by omega⟩ ?_
      refine x_topL (fun z218 e_z218 => ?_)
      have r_z218 := hG (238 + 1 + x2.toNat) x7.toNat
      rw [(gr_239 x7.toNat (show 239 ≤ (238 + 1 + x2.toNat) by omega) (by omega)).1, (gr_239 x7.toNat (show 239 ≤ (238 + 1 + x2.toNat) by omega) (by omega)).2.1, ← e_z218] at r_z218
      have b_z218 : in64 z218 := r_z218
      refine x_A k119_92 (fun _ => rfl) ?_
      refine x_getR k119_93 (f := 9) rfl (q := 0) (n := 12) (kd := 3) ⟨by decide, rfl⟩ (q2 := 243) (by decide) rfl ?_
      refine x_getR k119_96 (f := 10) rfl (q := 243) (n := 13) (kd := 13) ⟨by decide, rfl⟩ (q2 := 255) (by decide) rfl ?_
      refine x_A k119_99 (fun _ => rfl) ?_
      refine x_lald k119_100 (q := 255) (n := 40) ⟨by decide, rfl⟩ (by decide) ⟨by omega, by omega⟩ ?_
      refine x_topL (fun z219 e_z219 => ?_)
      have b_z219 : in64 z219 := by rw [e_z219]; exact hG 255 x1.toNat
      refine x_ldc2 k119_101 (z := (-1)) rfl (by decide +kernel) ?_
      refine x_lxor_m1 k119_104 (fun z220 b_z220 g_z220 => ?_)
      refine x_land_b k119_105 (fun z221 b_z221 g_z221 => ?_)
      have op_ := ofP_of (σ := s0) (e := d) (p := a) (t := b) (i := x7) b_z221 w_2 ⟨by omega, by omega⟩ (show z219 = s 255 a.toNat from by rw [← show x1 = a by omega]; exact e_z219) (show z218 = s0 (238 + 1 + b.toNat) x7.toNat from by rw [← rowsM f (by decide) b.toNat x7.toNat (by omega), ← show x2 = b by omega]; exact e_z218) g_z220 g_z221
      refine x_lconst k119_106 (z := 0) (by decide +kernel) ?_
      refine x_lc_eq k119_107 k119_108 (t := 114) rfl b_z221 ⟨by omega, by omega⟩ (fun c222 => ?_) (fun c222 => ?_)
      · skip
        refine x_iinc k119_114 (ls' := [(5, vi (x5 + 1)), (0, .ref 0), (1, vi x1), (2, vi x2), (3, vi x3), (4, vi x4), (6, vi x6), (7, vi x7)]) rfl (by decide) rfl ?_
        refine x_A k119_117 (fun _ => rfl) ?_
        refine x_istore k119_119 (ls' := [(6, vi x7), (5, vi (x5 + 1)), (0, .ref 0), (1, vi x1), (2, vi x2), (3, vi x3), (4, vi x4), (7, vi x7)]) (by decide) rfl ?_
        refine x_iinc k119_121 (ls' := [(7, vi (x7 + (-1))), (6, vi x7), (5, vi (x5 + 1)), (0, .ref 0), (1, vi x1), (2, vi x2), (3, vi x3), (4, vi x4)]) rfl (by decide) rfl ?_
        refine x_goto k119_124 (t := 75) rfl ?_
        refine x_ls (l := [(0, .ref 0), (1, vi x1), (2, vi x2), (3, vi x3), (4, vi x4), (5, vi (x5 + 1)), (6, vi x7), (7, vi (x7 + (-1)))]) (show ([0, 1, 2, 3, 4, 5, 6, 7] : List Nat).Nodup from by decide) ⟨rfl, rfl, rfl, rfl, rfl, rfl, rfl, rfl, trivial⟩ ?_
        exact ih s x1 x2 x3 x4 (x5 + 1) x7 (x7 + (-1)) hG f ⟨by omega, by omega⟩ ⟨by omega, by omega⟩ ⟨by omega, by omega⟩ ⟨by omega, by omega⟩ ⟨by omega, by omega⟩ ⟨by omega, by omega⟩ ⟨by omega, by omega⟩ (by omega) (by omega) w_2 (by have cs := ctp_s (fun i : Nat => ofP s0 d a b (i : Int)) (k := x7) (by omega); rw [show ((x7.toNat : Nat) : Int) = x7 by omega] at cs; have q := cs.1 (op_.mp (by omega)); rw [show (x7 + -1 + 1).toNat = x7.toNat by omega]; omega) (ofD.yes w_4 (by omega) (by omega) (op_.mp (by omega))) i_VCj i_VCl  (by omega)
      · skip
        refine x_goto k119_111 (t := 121) rfl ?_
        refine x_iinc k119_121 (ls' := [(7, vi (x7 + (-1))), (0, .ref 0), (1, vi x1), (2, vi x2), (3, vi x3), (4, vi x4), (5, vi x5), (6, vi x6)]) rfl (by decide) rfl ?_
        refine x_goto k119_124 (t := 75) rfl ?_
        refine x_ls (l := [(0, .ref 0), (1, vi x1), (2, vi x2), (3, vi x3), (4, vi x4), (5, vi x5), (6, vi x6), (7, vi (x7 + (-1)))]) (show ([0, 1, 2, 3, 4, 5, 6, 7] : List Nat).Nodup from by decide) ⟨rfl, rfl, rfl, rfl, rfl, rfl, rfl, rfl, trivial⟩ ?_
        exact ih s x1 x2 x3 x4 x5 x6 (x7 + (-1)) hG f ⟨by omega, by omega⟩ ⟨by omega, by omega⟩ ⟨by omega, by omega⟩ ⟨by omega, by omega⟩ ⟨by omega, by omega⟩ ⟨by omega, by omega⟩ ⟨by omega, by omega⟩ (by omega) (by omega) w_2 (by have cs := ctp_s (fun i : Nat => ofP s0 d a b (i : Int)) (k := x7) (by omega); rw [show ((x7.toNat : Nat) : Int) = x7 by omega] at cs; have q := cs.2 (fun q => absurd (op_.mpr q) (by omega)); rw [show (x7 + -1 + 1).toNat = x7.toNat by omega]; omega) (ofD.no w_4 (fun q => absurd (op_.mpr q) (by omega))) i_VCj i_VCl  (by omega)
set_option maxHeartbeats 8000000 in
theorem W_X10_of_0 (s0 : xS) (hG0 : GI s0) (hJ0 : J s0) (a : Int) (b_a : (-2147483648) ≤ a ∧ a ≤ 2147483647) (b : Int) (b_b : (-2147483648) ≤ b ∧ b ≤ 2147483647) (d : Int) (b_d : (-2147483648) ≤ d ∧ d ≤ 2147483647) (e : Int) (b_e : (-2147483648) ≤ e ∧ e ≤ 2147483647) (p_46_3 : 0 ≤ s0 46 3 ∧ s0 46 3 ≤ 40) (p_231_3 : 0 ≤ s0 231 3 ∧ s0 231 3 ≤ 4) (p_0_10 : 0 ≤ s0 0 10 ∧ s0 0 10 ≤ 9) (pR : R1 s0) (i0_VCj : VCj s0) (i0_VCl : VCl s0) : xe none 119 0 (lv_args 0 [.ref 0, vi a, vi b, vi d, vi e]) [] s0 0 0 (fun s' v => GI s' ∧ FL [3329, 3334, 3335, 3336, 3392, 3456, 3520, 3584, 3276, 3648, 3712, 3776, 3840, 3904, 3968, 3277, 4032] s0 s' ∧ ∃ z, v = some (vi z) ∧ ((-2147483648) ≤ z ∧ z ≤ 2147483647) ∧ (OfS s0 a b d e z) ∧ VCj s' ∧ VCl s') := by
  have f0 : FL [3329, 3334, 3335, 3336, 3392, 3456, 3520, 3584, 3276, 3648, 3712, 3776, 3840, 3904, 3968, 3277, 4032] s0 s0 := FL.rf
  show xe none 119 0 [(0, .ref 0), (1, vi a), (2, vi b), (3, vi d), (4, vi e)] [] s0 0 0 _
  obtain ⟨z223, e_z223⟩ : ∃ z, z = s0 46 3 := ⟨_, rfl⟩
  have g_z223 : (0 : Int) ≤ s0 46 3 ∧ s0 46 3 ≤ 40 := hG0 46 3
  obtain ⟨z224, e_z224⟩ : ∃ z, z = s0 231 3 := ⟨_, rfl⟩
  have g_z224 : (0 : Int) ≤ s0 231 3 ∧ s0 231 3 ≤ 4 := hG0 231 3
  obtain ⟨z225, e_z225⟩ : ∃ z, z = s0 0 10 := ⟨_, rfl⟩
  have g_z225 : (0 : Int) ≤ s0 0 10 ∧ s0 0 10 ≤ 9 := hG0 0 10
  refine x_A k119_0 (fun _ => rfl) ?_
  refine x_getR k119_1 (f := 1) rfl (q := 0) (n := 12) (kd := 3) ⟨by decide, rfl⟩ (q2 := 46) (by decide) rfl ?_
  refine x_A k119_4 (fun _ => rfl) ?_
  refine x_callV k119_5 (y := 29) (n := 1) (w0 := 0) (w1 := 1) (as := [vi a]) (rest := []) (by decide +kernel) (q := 46) (nq := 4) (kq := 5) ⟨by decide, rfl⟩ rfl rfl rfl rfl (xe_mono (C_X3_has_46 s0 hG0 a ⟨by omega, by omega⟩) ?_)
  rintro s227 v ⟨h_s227, z226, rfl, hz_z226⟩
  rw [h_s227]
  rcases hz_z226 with ⟨c_z226, e_z226⟩ | ⟨c_z226, e_z226⟩
  · rw [e_z226]
    show xe none 119 8 [(0, .ref 0), (1, vi a), (2, vi b), (3, vi d), (4, vi e)] [vi 1] s0 0 0 _
    refine x_if_eq k119_8 (t := 22) rfl ⟨by omega, by omega⟩ (fun c228 => by exfalso; omega) (fun c228 => ?_)
    refine x_A k119_11 (fun _ => rfl) ?_
    refine x_getR k119_12 (f := 8) rfl (q := 0) (n := 12) (kd := 3) ⟨by decide, rfl⟩ (q2 := 231) (by decide) rfl ?_
    refine x_A k119_15 (fun _ => rfl) ?_
    refine x_callV k119_16 (y := 43) (n := 1) (w0 := 0) (w1 := 1) (as := [vi b]) (rest := []) (by decide +kernel) (q := 231) (nq := 4) (kq := 12) ⟨by decide, rfl⟩ rfl rfl rfl rfl (xe_mono (C_X5_has_231 s0 hG0 b ⟨by omega, by omega⟩) ?_)
    rintro s230 v ⟨h_s230, z229, rfl, hz_z229⟩
    rw [h_s230]
    rcases hz_z229 with ⟨c_z229, e_z229⟩ | ⟨c_z229, e_z229⟩
    · rw [e_z229]
      show xe none 119 19 [(0, .ref 0), (1, vi a), (2, vi b), (3, vi d), (4, vi e)] [vi 1] s0 0 0 _
      refine x_if_ne k119_19 (t := 26) rfl ⟨by omega, by omega⟩ (fun c231 => ?_) (fun c231 => by exfalso; omega)
      refine x_A k119_26 (fun _ => rfl) ?_
      refine x_A k119_27 (fun _ => rfl) ?_
      refine x_callV k119_28 (y := 125) (n := 1) (w0 := 0) (w1 := 1) (as := [vi d]) (rest := []) (by decide +kernel) (q := 0) (nq := 12) (kq := 3) ⟨by decide, rfl⟩ rfl rfl rfl rfl (xe_mono (C_X10_isKnownEdition_0 s0 hG0 d ⟨by omega, by omega⟩) ?_)
      rintro s233 v ⟨h_s233, z232, rfl, hz_z232⟩
      rw [h_s233]
      rcases hz_z232 with ⟨c_z232, e_z232⟩ | ⟨c_z232, e_z232⟩
      · rw [e_z232]
        show xe none 119 31 [(0, .ref 0), (1, vi a), (2, vi b), (3, vi d), (4, vi e)] [vi 1] s0 0 0 _
        refine x_if_eq k119_31 (t := 44) rfl ⟨by omega, by omega⟩ (fun c234 => by exfalso; omega) (fun c234 => ?_)
        refine x_A k119_34 (fun _ => rfl) ?_
        refine x_A k119_36 (fun _ => rfl) ?_
        refine x_A k119_37 (fun _ => rfl) ?_
        refine x_callS k119_38 (y := 121) (n := 3) (w0 := 0) (w1 := 3) (as := [vi e, vi 0, vi 2]) (rest := []) (by decide +kernel) rfl rfl rfl rfl (xe_mono (C_X10_isWithin s0 hG0 e ⟨by omega, by omega⟩ 0 ⟨by omega, by omega⟩ 2 ⟨by omega, by omega⟩) ?_)
        rintro s236 v ⟨h_s236, z235, rfl, hz_z235⟩
        rw [h_s236]
        rcases hz_z235 with ⟨c_z235, e_z235⟩ | ⟨c_z235, e_z235⟩
        · rw [e_z235]
          show xe none 119 41 [(0, .ref 0), (1, vi a), (2, vi b), (3, vi d), (4, vi e)] [vi 1] s0 0 0 _
          refine x_if_ne k119_41 (t := 48) rfl ⟨by omega, by omega⟩ (fun c237 => ?_) (fun c237 => by exfalso; omega)
          refine x_A k119_48 (fun _ => rfl) ?_
          refine x_getR k119_49 (f := 9) rfl (q := 0) (n := 12) (kd := 3) ⟨by decide, rfl⟩ (q2 := 243) (by decide) rfl ?_
          refine x_A k119_52 (fun _ => rfl) ?_
          refine x_callV k119_53 (y := 76) (n := 1) (w0 := 0) (w1 := 1) (as := [vi d]) (rest := []) (by decide +kernel) (q := 243) (nq := 13) (kq := 13) ⟨by decide, rfl⟩ rfl rfl rfl rfl (xe_mono (E_X8_lookIn_243 s0 hG0 (hJ0.fl f0 (by decide)) d ⟨by omega, by omega⟩ (pR.fl f0 (by decide)) i0_VCj i0_VCl) ?_)
          rintro s239 v ⟨hG_s239, t_s239, rfl, xp_z238⟩
          have f_s239 : FL [3329, 3334, 3335, 3336, 3392, 3456, 3520, 3584, 3276, 3648, 3712, 3776, 3840, 3904, 3968, 3277, 4032] s0 s239 := f0.tr t_s239 (by decide)
          have q240 : s239 46 3 = z223 := (t_s239 46 3 (show 452 ∉ [3329, 3334, 3335, 3336, 3392, 3456, 3520, 3584, 3276, 3648, 3712, 3776, 3840, 3904, 3968, 3277, 4032] from by decide)).trans e_z223.symm
          have q241 : s239 231 3 = z224 := (t_s239 231 3 (show 2884 ∉ [3329, 3334, 3335, 3336, 3392, 3456, 3520, 3584, 3276, 3648, 3712, 3776, 3840, 3904, 3968, 3277, 4032] from by decide)).trans e_z224.symm
          have q242 : s239 0 10 = z225 := (t_s239 0 10 (show 11 ∉ [3329, 3334, 3335, 3336, 3392, 3456, 3520, 3584, 3276, 3648, 3712, 3776, 3840, 3904, 3968, 3277, 4032] from by decide)).trans e_z225.symm
          obtain ⟨z243, e_z243⟩ : ∃ z, z = s239 243 11 := ⟨_, rfl⟩
          have g_z243 : (0 : Int) ≤ s239 243 11 ∧ s239 243 11 ≤ 1 := hG_s239 243 11
          obtain ⟨z244, e_z244⟩ : ∃ z, z = s239 243 12 := ⟨_, rfl⟩
          have g_z244 : (-1) ≤ s239 243 12 ∧ s239 243 12 ≤ 9 := hG_s239 243 12
          show xe none 119 56 [(0, .ref 0), (1, vi a), (2, vi b), (3, vi d), (4, vi e)] [] s239 0 0 _
          have VCj_k : VCj s239 := VCj.judge hG0 t_s239 (by decide) xp_z238.1
          have VCl_k : VCl s239 := VCl.look hG0 t_s239 (by decide) xp_z238.2.1 xp_z238.2.2.1 xp_z238.2.2.2
          refine x_A k119_56 (fun _ => rfl) ?_
          refine x_istore k119_57 (ls' := [(5, vi 0), (0, .ref 0), (1, vi a), (2, vi b), (3, vi d), (4, vi e)]) (by decide) rfl ?_
          refine x_A k119_59 (fun _ => rfl) ?_
          refine x_istore k119_60 (ls' := [(6, vi (-1)), (5, vi 0), (0, .ref 0), (1, vi a), (2, vi b), (3, vi d), (4, vi e)]) (by decide) rfl ?_
          refine x_A k119_62 (fun _ => rfl) ?_
          refine x_getR k119_63 (f := 8) rfl (q := 0) (n := 12) (kd := 3) ⟨by decide, rfl⟩ (q2 := 231) (by decide) rfl ?_
          refine x_getR k119_66 (f := 0) rfl (q := 231) (n := 4) (kd := 12) ⟨by decide, rfl⟩ (q2 := 232) (by decide) rfl ?_
          refine x_A k119_69 (fun _ => rfl) ?_
          refine x_iald k119_70 (q := 232) (n := 4) ⟨by decide, rfl⟩ (by decide) ⟨by omega, by omega⟩ ?_
          refine x_top (fun z245 e_z245 => ?_)
          have g_z245 : (0 : Int) ≤ s239 232 b.toNat ∧ s239 232 b.toNat ≤ 5 := hG_s239 232 b.toNat
          have m232_ : s0 232 b.toNat = z245 := by rw [← f_s239 232 b.toNat (show 2944 ∉ [3329, 3334, 3335, 3336, 3392, 3456, 3520, 3584, 3276, 3648, 3712, 3776, 3840, 3904, 3968, 3277, 4032] from by decide)]; exact e_z245.symm
          refine x_A k119_71 (fun _ => rfl) ?_
          refine x_isub k119_72 ?_
          refine x_top (fun z246 e_z246 => ?_)
          refine x_istore k119_73 (ls' := [(7, vi z246), (6, vi (-1)), (5, vi 0), (0, .ref 0), (1, vi a), (2, vi b), (3, vi d), (4, vi e)]) (by decide) rfl ?_
          refine x_ls (l := [(0, .ref 0), (1, vi a), (2, vi b), (3, vi d), (4, vi e), (5, vi 0), (6, vi (-1)), (7, vi z246)]) (show ([0, 1, 2, 3, 4, 5, 6, 7] : List Nat).Nodup from by decide) ⟨rfl, rfl, rfl, rfl, rfl, rfl, rfl, rfl, trivial⟩ ?_
          exact L_W_X10_of_0_75 s0 hJ0 hG0 a b_a b b_b d b_d e b_e pR  (((z246 - (-1)) + 1 : Int)).toNat s239 a b d e 0 (-1) z246 hG_s239 f_s239 ⟨by omega, by omega⟩ ⟨by omega, by omega⟩ ⟨by omega, by omega⟩ ⟨by omega, by omega⟩ ⟨by omega, by omega⟩ ⟨by omega, by omega⟩ ⟨by omega, by omega⟩ (by omega) (by omega) xp_z238.2.1 (by unfold ofN; rw [show (z246 + 1).toNat = (s0 232 b.toNat).toNat by omega]; omega) (ofD_0 (by omega)) VCj_k VCl_k  (by omega)
        · rw [e_z235]
          show xe none 119 41 [(0, .ref 0), (1, vi a), (2, vi b), (3, vi d), (4, vi e)] [vi 0] s0 0 0 _
          refine x_if_ne k119_41 (t := 48) rfl ⟨by omega, by omega⟩ (fun c247 => by exfalso; omega) (fun c247 => ?_)
          refine x_sipush k119_44 (by decide +kernel) ?_
          exact x_iret k119_47 rfl ⟨hG0, f0, (-1002), rfl, ⟨by omega, by omega⟩, (by unfold OfS; exact Or.inr (Or.inl ⟨by omega, by omega, rfl⟩)), i0_VCj, i0_VCl⟩
      · rw [e_z232]
        show xe none 119 31 [(0, .ref 0), (1, vi a), (2, vi b), (3, vi d), (4, vi e)] [vi 0] s0 0 0 _
        refine x_if_eq k119_31 (t := 44) rfl ⟨by omega, by omega⟩ (fun c248 => ?_) (fun c248 => by exfalso; omega)
        refine x_sipush k119_44 (by decide +kernel) ?_
        exact x_iret k119_47 rfl ⟨hG0, f0, (-1002), rfl, ⟨by omega, by omega⟩, (by unfold OfS; exact Or.inr (Or.inl ⟨by omega, by omega, rfl⟩)), i0_VCj, i0_VCl⟩
    · rw [e_z229]
      show xe none 119 19 [(0, .ref 0), (1, vi a), (2, vi b), (3, vi d), (4, vi e)] [vi 0] s0 0 0 _
      refine x_if_ne k119_19 (t := 26) rfl ⟨by omega, by omega⟩ (fun c249 => by exfalso; omega) (fun c249 => ?_)
      refine x_sipush k119_22 (by decide +kernel) ?_
      exact x_iret k119_25 rfl ⟨hG0, f0, (-1001), rfl, ⟨by omega, by omega⟩, (by unfold OfS; exact Or.inl ⟨by omega, rfl⟩), i0_VCj, i0_VCl⟩
  · rw [e_z226]
    show xe none 119 8 [(0, .ref 0), (1, vi a), (2, vi b), (3, vi d), (4, vi e)] [vi 0] s0 0 0 _
    refine x_if_eq k119_8 (t := 22) rfl ⟨by omega, by omega⟩ (fun c250 => ?_) (fun c250 => by exfalso; omega)
    refine x_sipush k119_22 (by decide +kernel) ?_
    exact x_iret k119_25 rfl ⟨hG0, f0, (-1001), rfl, ⟨by omega, by omega⟩, (by unfold OfS; exact Or.inl ⟨by omega, rfl⟩), i0_VCj, i0_VCl⟩
