set_option maxHeartbeats 8000000 in
theorem E_X10_word_0 (s0 : xS) (hG0 : GI s0) (a : Int) (b_a : (-2147483648) ≤ a ∧ a ≤ 2147483647) (b : Int) (b_b : (-2147483648) ≤ b ∧ b ≤ 2147483647) (d : Int) (b_d : (-2147483648) ≤ d ∧ d ≤ 2147483647) (p_1_4 : 1 ≤ s0 1 4 ∧ s0 1 4 ≤ 40) : xe none 108 0 (lv_args 0 [.ref 0, vi a, vi b, vi d]) [] s0 0 0 (fun s' v => GI s' ∧ FL [2244, 2304, 2368, 2432] s0 s' ∧ ∃ z, v = some (vi z) ∧ ((-1004) ≤ z ∧ z ≤ 127) ∧ (WdC s0 s' a b d z)) := by
  have f0 : FL [2244, 2304, 2368, 2432] s0 s0 := FL.rf
  show xe none 108 0 [(0, .ref 0), (1, vi a), (2, vi b), (3, vi d)] [] s0 0 0 _
  obtain ⟨z1, e_z1⟩ : ∃ z, z = s0 1 4 := ⟨_, rfl⟩
  have g_z1 : (1 : Int) ≤ s0 1 4 ∧ s0 1 4 ≤ 40 := hG0 1 4
  refine x_A k108_0 (fun _ => rfl) ?_
  refine x_getR k108_1 (f := 0) rfl (q := 0) (n := 12) (kd := 3) ⟨by decide, rfl⟩ (q2 := 1) (by decide) rfl ?_
  refine x_A k108_4 (fun _ => rfl) ?_
  refine x_callV k108_5 (y := 59) (n := 1) (w0 := 0) (w1 := 1) (as := [vi d]) (rest := []) (by decide +kernel) (q := 1) (nq := 5) (kq := 4) ⟨by decide, rfl⟩ rfl rfl rfl rfl (xe_mono (C_X7_has_1 s0 hG0 d (by first | exact x_rb b_d rfl rfl | exact ⟨by omega, by omega⟩)) ?_)
  rintro s3 v ⟨h_s3, z2, rfl, hz_z2⟩
  rw [h_s3]
  rcases hz_z2 with ⟨c_z2, e_z2⟩ | ⟨c_z2, e_z2⟩
  · rw [e_z2]
    show xe none 108 8 [(0, .ref 0), (1, vi a), (2, vi b), (3, vi d)] [vi 1] s0 0 0 _
    refine x_if_ne k108_8 (t := 15) rfl ⟨by decide, by decide⟩ (fun c4 => ?_) (fun c4 => by exfalso; omega)
    refine x_A k108_15 (fun _ => rfl) ?_
    refine x_A k108_16 (fun _ => rfl) ?_
    refine x_callS k108_17 (y := 124) (n := 2) (w0 := 0) (w1 := 2) (as := [vi a, vi b]) (rest := []) (by decide +kernel) rfl rfl rfl rfl (xe_mono (C_X10_isWord s0 hG0 a (by first | exact x_rb b_a rfl rfl | exact ⟨by omega, by omega⟩) b (by first | exact x_rb b_b rfl rfl | exact ⟨by omega, by omega⟩)) ?_)
    rintro s6 v ⟨h_s6, z5, rfl, hz_z5⟩
    rw [h_s6]
    rcases hz_z5 with ⟨c_z5, e_z5⟩ | ⟨c_z5, e_z5⟩
    · rw [e_z5]
      show xe none 108 20 [(0, .ref 0), (1, vi a), (2, vi b), (3, vi d)] [vi 1] s0 0 0 _
      refine x_if_ne k108_20 (t := 27) rfl ⟨by decide, by decide⟩ (fun c7 => ?_) (fun c7 => by exfalso; omega)
      refine x_A k108_27 (fun _ => rfl) ?_
      refine x_getR k108_28 (f := 6) rfl (q := 0) (n := 12) (kd := 3) ⟨by decide, rfl⟩ (q2 := 214) (by decide) rfl ?_
      refine x_A k108_31 (fun _ => rfl) ?_
      refine x_A k108_32 (fun _ => rfl) ?_
      refine x_callV k108_33 (y := 89) (n := 2) (w0 := 0) (w1 := 2) (as := [vi a, vi b]) (rest := []) (by decide +kernel) (q := 214) (nq := 4) (kq := 10) ⟨by decide, rfl⟩ rfl rfl rfl rfl (xe_mono (E_X9_marksOf_214 s0 hG0 a (by first | exact x_rb b_a rfl rfl | exact ⟨by omega, by omega⟩) b (by first | exact x_rb b_b rfl rfl | exact ⟨by omega, by omega⟩)) ?_)
      rintro s9 v ⟨-, t_s9, z8, rfl, b_z8, xp_z8⟩
      rw [t_s9.nil]
      try rw [t_s9.nil] at xp_z8
      show xe none 108 36 [(0, .ref 0), (1, vi a), (2, vi b), (3, vi d)] [vj z8] s0 0 0 _
      refine x_A k108_36 (fun _ => rfl) ?_
      refine x_lushr_b k108_37 ⟨by omega, by omega⟩ (fun z10 b_z10 g_z10 => ?_)
      refine x_lconst k108_38 (z := 1) (by decide +kernel) ?_
      refine x_land_b k108_39 (fun z11 b_z11 g_z11 => ?_)
      have bl := bt_low b_z11 g_z11
      have bu := g_z10 0
      have px := xp_z8 d.toNat (by omega)
      rw [show ((d.toNat : Nat) : Int) = d by omega] at px
      refine x_lconst k108_40 (z := 0) (by decide +kernel) ?_
      refine x_lc_eq k108_41 k108_42 (t := 49) rfl b_z11 ⟨by omega, by omega⟩ (fun c12 => ?_) (fun c12 => ?_)
      · skip
        have nw : ¬ wms s0 a b (s0 214 3) d := fun w => bl.elim (fun q => by have h9 := px.mpr w; rw [show bt z8 d.toNat = false from bu.symm.trans q.2] at h9; cases h9) (fun q => absurd (show z11 = 0 by omega) q.1)
        refine x_A k108_49 (fun _ => rfl) ?_
        refine x_getR k108_50 (f := 6) rfl (q := 0) (n := 12) (kd := 3) ⟨by decide, rfl⟩ (q2 := 214) (by decide) rfl ?_
        refine x_A k108_53 (fun _ => rfl) ?_
        refine x_A k108_54 (fun _ => rfl) ?_
        refine x_A k108_55 (fun _ => rfl) ?_
        refine x_callV k108_56 (y := 88) (n := 3) (w0 := 0) (w1 := 3) (as := [vi a, vi b, vi d]) (rest := []) (by decide +kernel) (q := 214) (nq := 4) (kq := 10) ⟨by decide, rfl⟩ rfl rfl rfl rfl (xe_mono (E_X9_add_214 s0 hG0 a (by first | exact x_rb b_a rfl rfl | exact ⟨by omega, by omega⟩) b (by first | exact x_rb b_b rfl rfl | exact ⟨by omega, by omega⟩) d (by first | exact x_rb b_d rfl rfl | exact ⟨by omega, by omega⟩)) ?_)
        rintro s14 v ⟨hG_s14, t_s14, z13, rfl, g_z13, xp_z13⟩
        have f_s14 : FL [2244, 2304, 2368, 2432] s0 s14 := f0.tr t_s14 (by decide +kernel)
        have q15 : s14 1 4 = z1 := (t_s14 1 4 (show 69 ∉ [2244, 2304, 2368, 2432] from by decide +kernel)).trans e_z1.symm
        obtain ⟨z16, e_z16⟩ : ∃ z, z = s14 214 3 := ⟨_, rfl⟩
        have g_z16 : (0 : Int) ≤ s14 214 3 ∧ s14 214 3 ≤ 60 := hG_s14 214 3
        show xe none 108 59 [(0, .ref 0), (1, vi a), (2, vi b), (3, vi d)] [vi z13] s14 0 0 _
        exact x_iret k108_59 rfl ⟨hG_s14, f_s14, z13, rfl, (by first | exact x_rbe e_z13 g_z13 rfl rfl | exact x_rb g_z13 rfl rfl | exact ⟨by omega, by omega⟩), (by unfold WdC; exact xp_z13.elim (fun u => Or.inr (Or.inr (Or.inr (Or.inl ⟨by omega, by omega, nw, u⟩)))) (fun u => Or.inr (Or.inr (Or.inr (Or.inr ⟨by omega, by omega, nw, u⟩)))))⟩
      · skip
        have yw : wms s0 a b (s0 214 3) d := bl.elim (fun q => absurd q.1 (by omega)) (fun q => px.mp (bu.symm.trans q.2))
        refine x_sipush k108_45 (by decide +kernel) ?_
        exact x_iret k108_48 rfl ⟨hG0, f0, (-1003), rfl, ⟨by decide, by decide⟩, (by unfold WdC; exact Or.inr (Or.inr (Or.inl ⟨by omega, by omega, yw, rfl, rfl, rfl, rfl, rfl⟩)))⟩
    · rw [e_z5]
      show xe none 108 20 [(0, .ref 0), (1, vi a), (2, vi b), (3, vi d)] [vi 0] s0 0 0 _
      refine x_if_ne k108_20 (t := 27) rfl ⟨by decide, by decide⟩ (fun c17 => by exfalso; omega) (fun c17 => ?_)
      refine x_sipush k108_23 (by decide +kernel) ?_
      exact x_iret k108_26 rfl ⟨hG0, f0, (-1002), rfl, ⟨by decide, by decide⟩, (by unfold WdC; exact Or.inr (Or.inl ⟨by omega, by omega, rfl, rfl, rfl, rfl, rfl⟩))⟩
  · rw [e_z2]
    show xe none 108 8 [(0, .ref 0), (1, vi a), (2, vi b), (3, vi d)] [vi 0] s0 0 0 _
    refine x_if_ne k108_8 (t := 15) rfl ⟨by decide, by decide⟩ (fun c18 => by exfalso; omega) (fun c18 => ?_)
    refine x_sipush k108_11 (by decide +kernel) ?_
    exact x_iret k108_14 rfl ⟨hG0, f0, (-1001), rfl, ⟨by decide, by decide⟩, (by unfold WdC; exact Or.inl ⟨by omega, rfl, rfl, rfl, rfl, rfl⟩)⟩
set_option maxHeartbeats 8000000 in
theorem L_E_X11_leadsMany_256_5 (s0 : xS) (a : Int) (b_a : 0 ≤ a ∧ a ≤ 3) (b : Int) (b_b : 0 ≤ b ∧ b ≤ 99)  : ∀ (n : Nat) (s : xS) (x1 : Int) (x2 : Int) (x3 : Int) (x4 : Int) (x1000 : Int) (hG : GI s) (f : FL [] s0 s) (b_x1 : 0 ≤ x1 ∧ x1 ≤ 3) (b_x2 : 0 ≤ x2 ∧ x2 ≤ 99) (b_x3 : 0 ≤ x3 ∧ x3 ≤ 64) (b_x4 : 0 ≤ x4 ∧ x4 ≤ 60) (b_x1000 : 0 ≤ x1000 ∧ x1000 ≤ 60) (r_3_4 : x3 ≤ x4 + 0) (r_4_1000 : x4 ≤ x1000 + 0) (w_0 : x1 = a) (w_1 : x2 = b) (w_2 : x1000 = s0 256 40) (w_3 : x4 ≤ x1000) (w_4 : x3 = ctp (fun k => s0 284 k = 100 * a + b) x4.toNat) (e_x1000 : x1000 = s 256 40)  (hm : (60 - x4) < (n : Int)), xe none 191 5 [(0, .ref 256), (1, vi x1), (2, vi x2), (3, vi x3), (4, vi x4)] [] s 0 0 (fun s' v => GI s' ∧ FL [] s0 s' ∧ ∃ z, v = some (vi z) ∧ (0 ≤ z ∧ z ≤ 60) ∧ (z = ctp (fun k => s0 284 k = 100 * a + b) (s0 256 40).toNat)) := by
  intro n
  induction n with
  | zero => intro s x1 x2 x3 x4 x1000 hG f b_x1 b_x2 b_x3 b_x4 b_x1000 r_3_4 r_4_1000 w_0 w_1 w_2 w_3 w_4 e_x1000  hm; exfalso; omega
  | succ n ih =>
    intro s x1 x2 x3 x4 x1000 hG f b_x1 b_x2 b_x3 b_x4 b_x1000 r_3_4 r_4_1000 w_0 w_1 w_2 w_3 w_4 e_x1000  hm
    refine x_A k191_5 (fun _ => rfl) ?_
    refine x_A k191_7 (fun _ => rfl) ?_
    refine x_getI k191_8 (f := 40) rfl (q := 256) (n := 62) (kd := 15) ⟨by decide, rfl⟩ (by decide) rfl ?_
    refine x_rw (e_x1000.symm) ?_
    refine x_ic_ge k191_11 (t := 44) rfl (by first | exact x_rb b_x4 rfl rfl | exact ⟨by omega, by omega⟩) (by first | exact x_rb b_x1000 rfl rfl | exact ⟨by omega, by omega⟩) (fun c128 => ?_) (fun c128 => ?_)
    · skip
      refine x_A k191_44 (fun _ => rfl) ?_
      exact x_iret k191_45 rfl ⟨hG, f, x3, rfl, (by first | exact x_rb b_x3 rfl rfl | exact ⟨by omega, by omega⟩), (by rw [show (s0 256 40).toNat = x4.toNat by omega]; exact w_4)⟩
    · skip
      refine x_A k191_14 (fun _ => rfl) ?_
      refine x_A k191_15 (fun _ => rfl) ?_
      refine x_getR k191_16 (f := 41) rfl (q := 256) (n := 62) (kd := 15) ⟨by decide, rfl⟩ (q2 := 284) (by decide) rfl ?_
      refine x_A k191_19 (fun _ => rfl) ?_
      refine x_iald k191_21 (q := 284) (n := 60) ⟨by decide, rfl⟩ (by decide) (by first | exact x_rbl b_x4 rfl rfl | exact ⟨by omega, by omega⟩) ?_
      refine x_top (fun z129 e_z129 => ?_)
      have g_z129 : (0 : Int) ≤ s 284 x4.toNat ∧ s 284 x4.toNat ≤ 399 := hG 284 x4.toNat
      refine x_bipush k191_22 (by decide +kernel) ?_
      refine x_A k191_24 (fun _ => rfl) ?_
      refine x_imul k191_25 ?_
      refine x_top (fun z130 e_z130 => ?_)
      refine x_A k191_26 (fun _ => rfl) ?_
      refine x_iadd k191_27 ?_
      refine x_top (fun z131 e_z131 => ?_)
      refine x_ic_ne k191_28 (t := 35) rfl (by first | exact x_rbe e_z129 g_z129 rfl rfl | exact x_rb g_z129 rfl rfl | exact ⟨by omega, by omega⟩) (by first | exact x_rbe e_z131 g_z131 rfl rfl | exact x_rb g_z131 rfl rfl | exact ⟨by omega, by omega⟩) (fun c132 => ?_) (fun c132 => ?_)
      · skip
        refine x_A k191_35 (fun _ => rfl) ?_
        have cs := ctp_s (fun k => s0 284 k = 100 * a + b) (k := x4) (by omega)
        have ck : ctp (fun k => s0 284 k = 100 * a + b) (x4 + 1).toNat = ctp (fun k => s0 284 k = 100 * a + b) x4.toNat := cs.2 (by show ¬ s0 284 x4.toNat = 100 * a + b; rw [← f.nil]; omega)
        refine x_iadd k191_36 ?_
        refine x_top (fun z133 e_z133 => ?_)
        refine x_istore_n k191_37 (ls' := [(3, vi z133), (0, .ref 256), (1, vi x1), (2, vi x2), (4, vi x4)]) (by decide) rfl ?_
        refine x_iinc k191_38 (ls' := [(4, vi (x4 + 1)), (3, vi z133), (0, .ref 256), (1, vi x1), (2, vi x2)]) rfl (by decide) rfl ?_
        refine x_goto k191_41 (t := 5) rfl ?_
        refine x_ls (l := [(0, .ref 256), (1, vi x1), (2, vi x2), (3, vi z133), (4, vi (x4 + 1))]) (show ([0, 1, 2, 3, 4] : List Nat).Nodup from by decide +kernel) ⟨rfl, rfl, rfl, rfl, rfl, trivial⟩ ?_
        exact ih s x1 x2 z133 (x4 + 1) x1000 hG f (by first | exact x_rb b_x1 rfl rfl | exact ⟨by omega, by omega⟩) (by first | exact x_rb b_x2 rfl rfl | exact ⟨by omega, by omega⟩) (by first | exact x_rbe e_z133 g_z133 rfl rfl | exact x_rb g_z133 rfl rfl | exact ⟨by omega, by omega⟩) ⟨by omega, by omega⟩ (by first | exact x_rb b_x1000 rfl rfl | exact ⟨by omega, by omega⟩) (by omega) (by omega) (by omega) (by omega) (by omega) (by omega) (by omega) (e_x1000.symm).symm  (by omega)
      · skip
        refine x_A k191_31 (fun _ => rfl) ?_
        refine x_goto k191_32 (t := 36) rfl ?_
        have cs := ctp_s (fun k => s0 284 k = 100 * a + b) (k := x4) (by omega)
        have ck : ctp (fun k => s0 284 k = 100 * a + b) (x4 + 1).toNat = ctp (fun k => s0 284 k = 100 * a + b) x4.toNat + 1 := cs.1 (by show s0 284 x4.toNat = 100 * a + b; rw [← f.nil]; omega)
        refine x_iadd k191_36 ?_
        refine x_top (fun z134 e_z134 => ?_)
        refine x_istore_n k191_37 (ls' := [(3, vi z134), (0, .ref 256), (1, vi x1), (2, vi x2), (4, vi x4)]) (by decide) rfl ?_
        refine x_iinc k191_38 (ls' := [(4, vi (x4 + 1)), (3, vi z134), (0, .ref 256), (1, vi x1), (2, vi x2)]) rfl (by decide) rfl ?_
        refine x_goto k191_41 (t := 5) rfl ?_
        refine x_ls (l := [(0, .ref 256), (1, vi x1), (2, vi x2), (3, vi z134), (4, vi (x4 + 1))]) (show ([0, 1, 2, 3, 4] : List Nat).Nodup from by decide +kernel) ⟨rfl, rfl, rfl, rfl, rfl, trivial⟩ ?_
        exact ih s x1 x2 z134 (x4 + 1) x1000 hG f (by first | exact x_rb b_x1 rfl rfl | exact ⟨by omega, by omega⟩) (by first | exact x_rb b_x2 rfl rfl | exact ⟨by omega, by omega⟩) (by first | exact x_rbe e_z134 g_z134 rfl rfl | exact x_rb g_z134 rfl rfl | exact ⟨by omega, by omega⟩) ⟨by omega, by omega⟩ (by first | exact x_rb b_x1000 rfl rfl | exact ⟨by omega, by omega⟩) (by omega) (by omega) (by omega) (by omega) (by omega) (by omega) (by omega) (e_x1000.symm).symm  (by omega)
set_option maxHeartbeats 8000000 in
theorem E_X11_leadsMany_256 (s0 : xS) (hG0 : GI s0) (a : Int) (b_a : 0 ≤ a ∧ a ≤ 3) (b : Int) (b_b : 0 ≤ b ∧ b ≤ 99) : xe none 191 0 (lv_args 0 [.ref 256, vi a, vi b]) [] s0 0 0 (fun s' v => GI s' ∧ FL [] s0 s' ∧ ∃ z, v = some (vi z) ∧ (0 ≤ z ∧ z ≤ 60) ∧ (z = ctp (fun k => s0 284 k = 100 * a + b) (s0 256 40).toNat)) := by
  have f0 : FL [] s0 s0 := FL.rf
  show xe none 191 0 [(0, .ref 256), (1, vi a), (2, vi b)] [] s0 0 0 _
  refine x_A k191_0 (fun _ => rfl) ?_
  refine x_istore_n k191_1 (ls' := [(3, vi 0), (0, .ref 256), (1, vi a), (2, vi b)]) (by decide) rfl ?_
  refine x_A k191_2 (fun _ => rfl) ?_
  refine x_istore k191_3 (ls' := [(4, vi 0), (3, vi 0), (0, .ref 256), (1, vi a), (2, vi b)]) (by decide) rfl ?_
  obtain ⟨z135, e_z135⟩ : ∃ z, z = s0 256 40 := ⟨_, rfl⟩
  have g_z135 : (0 : Int) ≤ s0 256 40 ∧ s0 256 40 ≤ 60 := hG0 256 40
  refine x_ls (l := [(0, .ref 256), (1, vi a), (2, vi b), (3, vi 0), (4, vi 0)]) (show ([0, 1, 2, 3, 4] : List Nat).Nodup from by decide +kernel) ⟨rfl, rfl, rfl, rfl, rfl, trivial⟩ ?_
  exact L_E_X11_leadsMany_256_5 s0 a b_a b b_b  (((60 - 0) + 1 : Int)).toNat s0 a b 0 0 z135 hG0 f0 (by first | exact x_rb b_a rfl rfl | exact ⟨by omega, by omega⟩) (by first | exact x_rb b_b rfl rfl | exact ⟨by omega, by omega⟩) ⟨by decide, by decide⟩ ⟨by decide, by decide⟩ (by first | exact x_rbe e_z135 g_z135 rfl rfl | exact x_rb g_z135 rfl rfl | exact ⟨by omega, by omega⟩) (by omega) (by omega) (by omega) (by omega) (by omega) (by omega) (show _ = _ from rfl) (e_z135.symm).symm  (by omega)
set_option maxHeartbeats 8000000 in
theorem L_E_X11_word_256_27 (s0 : xS) (a : Int) (b_a : (-2147483648) ≤ a ∧ a ≤ 2147483647) (b : Int) (b_b : (-2147483648) ≤ b ∧ b ≤ 2147483647) (d : Int) (b_d : (-2147483648) ≤ d ∧ d ≤ 2147483647)  : ∀ (n : Nat) (s : xS) (x1 : Int) (x2 : Int) (x3 : Int) (x4 : Int) (x1000 : Int) (hG : GI s) (f : FL [4137, 5888, 5952] s0 s) (b_x1 : 0 ≤ x1 ∧ x1 ≤ 3) (b_x2 : 0 ≤ x2 ∧ x2 ≤ 99) (b_x3 : 0 ≤ x3 ∧ x3 ≤ 39) (b_x4 : 0 ≤ x4 ∧ x4 ≤ 60) (b_x1000 : 0 ≤ x1000 ∧ x1000 ≤ 60) (r_4_1000 : x4 ≤ x1000 + 0) (w_0 : x1 = a) (w_1 : x2 = b) (w_2 : x3 = d) (w_3 : x1000 = s0 256 40) (w_4 : 0 ≤ d ∧ d < s0 256 1) (w_5 : 0 ≤ a ∧ a ≤ 3 ∧ 0 ≤ b ∧ b ≤ 99) (w_6 : ∀ i : Int, 0 ≤ i → i < x4 → ¬ (s0 284 i.toNat = 100 * a + b ∧ s0 285 i.toNat = d)) (w_7 : s = s0) (e_x1000 : x1000 = s 256 40)  (hm : (60 - x4) < (n : Int)), xe none 192 27 [(0, .ref 256), (1, vi x1), (2, vi x2), (3, vi x3), (4, vi x4)] [] s 0 0 (fun s' v => GI s' ∧ FL [4137, 5888, 5952] s0 s' ∧ ∃ z, v = some (vi z) ∧ ((-1004) ≤ z ∧ z ≤ 60) ∧ (WdR s0 s' a b d z)) := by
  intro n
  induction n with
  | zero => intro s x1 x2 x3 x4 x1000 hG f b_x1 b_x2 b_x3 b_x4 b_x1000 r_4_1000 w_0 w_1 w_2 w_3 w_4 w_5 w_6 w_7 e_x1000  hm; exfalso; omega
  | succ n ih =>
    intro s x1 x2 x3 x4 x1000 hG f b_x1 b_x2 b_x3 b_x4 b_x1000 r_4_1000 w_0 w_1 w_2 w_3 w_4 w_5 w_6 w_7 e_x1000  hm
    refine x_A k192_27 (fun _ => rfl) ?_
    refine x_A k192_29 (fun _ => rfl) ?_
    refine x_getI k192_30 (f := 40) rfl (q := 256) (n := 62) (kd := 15) ⟨by decide, rfl⟩ (by decide) rfl ?_
    refine x_rw (e_x1000.symm) ?_
    refine x_ic_ge k192_33 (t := 73) rfl (by first | exact x_rb b_x4 rfl rfl | exact ⟨by omega, by omega⟩) (by first | exact x_rb b_x1000 rfl rfl | exact ⟨by omega, by omega⟩) (fun c529 => ?_) (fun c529 => ?_)
    · skip
      refine x_A k192_73 (fun _ => rfl) ?_
      refine x_getI k192_74 (f := 40) rfl (q := 256) (n := 62) (kd := 15) ⟨by decide, rfl⟩ (by decide) rfl ?_
      refine x_rw (e_x1000.symm) ?_
      refine x_bipush k192_77 (by decide +kernel) ?_
      refine x_ic_ne k192_79 (t := 86) rfl (by first | exact x_rb b_x1000 rfl rfl | exact ⟨by omega, by omega⟩) ⟨by decide, by decide⟩ (fun c530 => ?_) (fun c530 => ?_)
      · skip
        refine x_A k192_86 (fun _ => rfl) ?_
        refine x_getR k192_87 (f := 41) rfl (q := 256) (n := 62) (kd := 15) ⟨by decide, rfl⟩ (q2 := 284) (by decide) rfl ?_
        refine x_A k192_90 (fun _ => rfl) ?_
        refine x_getI k192_91 (f := 40) rfl (q := 256) (n := 62) (kd := 15) ⟨by decide, rfl⟩ (by decide) rfl ?_
        refine x_rw (e_x1000.symm) ?_
        refine x_bipush k192_94 (by decide +kernel) ?_
        refine x_A k192_96 (fun _ => rfl) ?_
        refine x_imul k192_97 ?_
        refine x_top (fun z531 e_z531 => ?_)
        refine x_A k192_98 (fun _ => rfl) ?_
        refine x_iadd k192_99 ?_
        refine x_top (fun z532 e_z532 => ?_)
        refine x_iast k192_100 (q := 284) (n := 60) ⟨by decide, rfl⟩ (by decide) (by first | exact x_rbl b_x1000 rfl rfl | exact ⟨by omega, by omega⟩) ?_
        refine x_nh (fun s533 e_s533 => ?_)
        have hG_s533 : GI s533 := by rw [e_s533]; exact hG.up (show 0 ≤ z532 ∧ z532 ≤ 399 from (by first | exact x_rbe e_z532 g_z532 rfl rfl | exact x_rb g_z532 rfl rfl | exact ⟨by omega, by omega⟩))
        have f_s533 : FL [4137, 5888, 5952] s0 s533 := by rw [e_s533]; exact f.up (show 5888 ∈ [4137, 5888, 5952] from by decide +kernel)
        have q534 : s533 256 40 = x1000 := by rw [e_s533, x_up_q (by decide)]; exact e_x1000.symm
        have q535 : s533 284 x1000.toNat = z532 := by rw [e_s533]; exact x_up_same
        refine x_A k192_101 (fun _ => rfl) ?_
        refine x_getR k192_102 (f := 42) rfl (q := 256) (n := 62) (kd := 15) ⟨by decide, rfl⟩ (q2 := 285) (by decide) rfl ?_
        refine x_A k192_105 (fun _ => rfl) ?_
        refine x_getI k192_106 (f := 40) rfl (q := 256) (n := 62) (kd := 15) ⟨by decide, rfl⟩ (by decide) rfl ?_
        refine x_rw (q534) ?_
        refine x_A k192_109 (fun _ => rfl) ?_
        refine x_iast k192_110 (q := 285) (n := 60) ⟨by decide, rfl⟩ (by decide) (by first | exact x_rbl b_x1000 rfl rfl | exact ⟨by omega, by omega⟩) ?_
        refine x_nh (fun s536 e_s536 => ?_)
        have hG_s536 : GI s536 := by rw [e_s536]; exact hG_s533.up (show 0 ≤ x3 ∧ x3 ≤ 39 from (by first | exact x_rb b_x3 rfl rfl | exact ⟨by omega, by omega⟩))
        have f_s536 : FL [4137, 5888, 5952] s0 s536 := by rw [e_s536]; exact f_s533.up (show 5952 ∈ [4137, 5888, 5952] from by decide +kernel)
        have q537 : s536 256 40 = x1000 := by rw [e_s536, x_up_q (by decide)]; exact q534
        have q538 : s536 284 x1000.toNat = z532 := by rw [e_s536, x_up_q (by first | decide | omega)]; exact q535
        have q539 : s536 285 x1000.toNat = x3 := by rw [e_s536]; exact x_up_same
        refine x_A k192_111 (fun _ => rfl) ?_
        refine x_A k192_112 (fun _ => rfl) ?_
        refine x_getI k192_113 (f := 40) rfl (q := 256) (n := 62) (kd := 15) ⟨by decide, rfl⟩ (by decide) rfl ?_
        refine x_rw (q537) ?_
        refine x_A k192_116 (fun _ => rfl) ?_
        refine x_iadd k192_117 ?_
        refine x_top (fun z540 e_z540 => ?_)
        refine x_putI k192_118 (f := 40) rfl (q := 256) (n := 62) (kd := 15) ⟨by decide, rfl⟩ rfl rfl rfl ?_
        refine x_nh (fun s541 e_s541 => ?_)
        have hG_s541 : GI s541 := by rw [e_s541]; exact hG_s536.up (show 0 ≤ z540 ∧ z540 ≤ 60 from (by first | exact x_rbe e_z540 g_z540 rfl rfl | exact x_rb g_z540 rfl rfl | exact ⟨by omega, by omega⟩))
        have f_s541 : FL [4137, 5888, 5952] s0 s541 := by rw [e_s541]; exact f_s536.up (show 4137 ∈ [4137, 5888, 5952] from by decide +kernel)
        have q542 : s541 256 40 = z540 := by rw [e_s541]; exact x_up_same
        have q543 : s541 284 x1000.toNat = z532 := by rw [e_s541, x_up_q (by first | decide | omega)]; exact q538
        have q544 : s541 285 x1000.toNat = x3 := by rw [e_s541, x_up_q (by first | decide | omega)]; exact q539
        refine x_A k192_121 (fun _ => rfl) ?_
        refine x_A k192_122 (fun _ => rfl) ?_
        refine x_A k192_123 (fun _ => rfl) ?_
        refine x_callV k192_124 (y := 191) (n := 2) (w0 := 0) (w1 := 2) (as := [vi x1, vi x2]) (rest := []) (by decide +kernel) (q := 256) (nq := 62) (kq := 15) ⟨by decide, rfl⟩ rfl rfl rfl rfl (xe_mono (E_X11_leadsMany_256 s541 hG_s541 x1 (by first | exact x_rb b_x1 rfl rfl | exact ⟨by omega, by omega⟩) x2 (by first | exact x_rb b_x2 rfl rfl | exact ⟨by omega, by omega⟩)) ?_)
        rintro s546 v ⟨-, t_s546, z545, rfl, g_z545, xp_z545⟩
        rw [t_s546.nil]
        try rw [t_s546.nil] at xp_z545
        show xe none 192 127 [(0, .ref 256), (1, vi x1), (2, vi x2), (3, vi x3), (4, vi x4)] [vi z545] s541 0 0 _
        exact x_iret k192_127 rfl ⟨hG_s541, f_s541, z545, rfl, (by first | exact x_rbe e_z545 g_z545 rfl rfl | exact x_rb g_z545 rfl rfl | exact ⟨by omega, by omega⟩), (by unfold WdR; exact Or.inr (Or.inr (Or.inr (Or.inr ⟨by omega, by omega, fun i i0 i1 => w_6 i i0 (by omega), by omega, by omega, fun j => by rw [e_s541, x_up_q (by decide), e_s536, x_up_q (by decide), e_s533, x_up_at, show x1000 = s0 256 40 by omega, show z532 = 100 * a + b by omega, w_7], fun j => by rw [e_s541, x_up_q (by decide), e_s536, x_up_at, e_s533, x_up_q (by decide), show x1000 = s0 256 40 by omega, show x3 = d by omega, w_7], by rw [xp_z545, show x1 = a by omega, show x2 = b by omega]⟩))))⟩
      · skip
        refine x_sipush k192_82 (by decide +kernel) ?_
        exact x_iret k192_85 rfl ⟨hG, f, (-1004), rfl, ⟨by decide, by decide⟩, (by unfold WdR; exact Or.inr (Or.inr (Or.inr (Or.inl ⟨by omega, by omega, fun i i0 i1 => w_6 i i0 (by omega), by omega, rfl, by rw [w_7], by rw [w_7], by rw [w_7]⟩))))⟩
    · skip
      refine x_A k192_36 (fun _ => rfl) ?_
      refine x_getR k192_37 (f := 41) rfl (q := 256) (n := 62) (kd := 15) ⟨by decide, rfl⟩ (q2 := 284) (by decide) rfl ?_
      refine x_A k192_40 (fun _ => rfl) ?_
      refine x_iald k192_42 (q := 284) (n := 60) ⟨by decide, rfl⟩ (by decide) (by first | exact x_rbl b_x4 rfl rfl | exact ⟨by omega, by omega⟩) ?_
      refine x_top (fun z547 e_z547 => ?_)
      have g_z547 : (0 : Int) ≤ s 284 x4.toNat ∧ s 284 x4.toNat ≤ 399 := hG 284 x4.toNat
      refine x_bipush k192_43 (by decide +kernel) ?_
      refine x_A k192_45 (fun _ => rfl) ?_
      refine x_imul k192_46 ?_
      refine x_top (fun z548 e_z548 => ?_)
      refine x_A k192_47 (fun _ => rfl) ?_
      refine x_iadd k192_48 ?_
      refine x_top (fun z549 e_z549 => ?_)
      refine x_ic_ne k192_49 (t := 67) rfl (by first | exact x_rbe e_z547 g_z547 rfl rfl | exact x_rb g_z547 rfl rfl | exact ⟨by omega, by omega⟩) (by first | exact x_rbe e_z549 g_z549 rfl rfl | exact x_rb g_z549 rfl rfl | exact ⟨by omega, by omega⟩) (fun c550 => ?_) (fun c550 => ?_)
      · skip
        refine x_iinc k192_67 (ls' := [(4, vi (x4 + 1)), (0, .ref 256), (1, vi x1), (2, vi x2), (3, vi x3)]) rfl (by decide) rfl ?_
        refine x_goto k192_70 (t := 27) rfl ?_
        refine x_ls (l := [(0, .ref 256), (1, vi x1), (2, vi x2), (3, vi x3), (4, vi (x4 + 1))]) (show ([0, 1, 2, 3, 4] : List Nat).Nodup from by decide +kernel) ⟨rfl, rfl, rfl, rfl, rfl, trivial⟩ ?_
        exact ih s x1 x2 x3 (x4 + 1) x1000 hG f (by first | exact x_rb b_x1 rfl rfl | exact ⟨by omega, by omega⟩) (by first | exact x_rb b_x2 rfl rfl | exact ⟨by omega, by omega⟩) (by first | exact x_rb b_x3 rfl rfl | exact ⟨by omega, by omega⟩) ⟨by omega, by omega⟩ (by first | exact x_rb b_x1000 rfl rfl | exact ⟨by omega, by omega⟩) (by omega) (by omega) (by omega) (by omega) (by omega) (by omega) (by omega) (nwd_step w_6 (by rw [← w_7]; omega)) w_7 (e_x1000.symm).symm  (by omega)
      · skip
        refine x_A k192_52 (fun _ => rfl) ?_
        refine x_getR k192_53 (f := 42) rfl (q := 256) (n := 62) (kd := 15) ⟨by decide, rfl⟩ (q2 := 285) (by decide) rfl ?_
        refine x_A k192_56 (fun _ => rfl) ?_
        refine x_iald k192_58 (q := 285) (n := 60) ⟨by decide, rfl⟩ (by decide) (by first | exact x_rbl b_x4 rfl rfl | exact ⟨by omega, by omega⟩) ?_
        refine x_top (fun z551 e_z551 => ?_)
        have g_z551 : (0 : Int) ≤ s 285 x4.toNat ∧ s 285 x4.toNat ≤ 39 := hG 285 x4.toNat
        refine x_A k192_59 (fun _ => rfl) ?_
        refine x_ic_ne k192_60 (t := 67) rfl (by first | exact x_rbe e_z551 g_z551 rfl rfl | exact x_rb g_z551 rfl rfl | exact ⟨by omega, by omega⟩) (by first | exact x_rb b_x3 rfl rfl | exact ⟨by omega, by omega⟩) (fun c552 => ?_) (fun c552 => ?_)
        · skip
          refine x_iinc k192_67 (ls' := [(4, vi (x4 + 1)), (0, .ref 256), (1, vi x1), (2, vi x2), (3, vi x3)]) rfl (by decide) rfl ?_
          refine x_goto k192_70 (t := 27) rfl ?_
          refine x_ls (l := [(0, .ref 256), (1, vi x1), (2, vi x2), (3, vi x3), (4, vi (x4 + 1))]) (show ([0, 1, 2, 3, 4] : List Nat).Nodup from by decide +kernel) ⟨rfl, rfl, rfl, rfl, rfl, trivial⟩ ?_
          exact ih s x1 x2 x3 (x4 + 1) x1000 hG f (by first | exact x_rb b_x1 rfl rfl | exact ⟨by omega, by omega⟩) (by first | exact x_rb b_x2 rfl rfl | exact ⟨by omega, by omega⟩) (by first | exact x_rb b_x3 rfl rfl | exact ⟨by omega, by omega⟩) ⟨by omega, by omega⟩ (by first | exact x_rb b_x1000 rfl rfl | exact ⟨by omega, by omega⟩) (by omega) (by omega) (by omega) (by omega) (by omega) (by omega) (by omega) (nwd_step w_6 (by rw [← w_7]; omega)) w_7 (e_x1000.symm).symm  (by omega)
        · skip
          refine x_sipush k192_63 (by decide +kernel) ?_
          exact x_iret k192_66 rfl ⟨hG, f, (-1003), rfl, ⟨by decide, by decide⟩, (by unfold WdR; exact Or.inr (Or.inr (Or.inl ⟨by omega, by omega, ⟨x4, ⟨by omega, by omega⟩, by rw [← w_7]; omega, by rw [← w_7]; omega⟩, rfl, by rw [w_7], by rw [w_7], by rw [w_7]⟩)))⟩
set_option maxHeartbeats 8000000 in
theorem E_X11_word_256 (s0 : xS) (hG0 : GI s0) (a : Int) (b_a : (-2147483648) ≤ a ∧ a ≤ 2147483647) (b : Int) (b_b : (-2147483648) ≤ b ∧ b ≤ 2147483647) (d : Int) (b_d : (-2147483648) ≤ d ∧ d ≤ 2147483647) (p_256_1 : 1 ≤ s0 256 1 ∧ s0 256 1 ≤ 40) : xe none 192 0 (lv_args 0 [.ref 256, vi a, vi b, vi d]) [] s0 0 0 (fun s' v => GI s' ∧ FL [4137, 5888, 5952] s0 s' ∧ ∃ z, v = some (vi z) ∧ ((-1004) ≤ z ∧ z ≤ 60) ∧ (WdR s0 s' a b d z)) := by
  have f0 : FL [4137, 5888, 5952] s0 s0 := FL.rf
  show xe none 192 0 [(0, .ref 256), (1, vi a), (2, vi b), (3, vi d)] [] s0 0 0 _
  obtain ⟨z553, e_z553⟩ : ∃ z, z = s0 256 1 := ⟨_, rfl⟩
  have g_z553 : (1 : Int) ≤ s0 256 1 ∧ s0 256 1 ≤ 40 := hG0 256 1
  refine x_A k192_0 (fun _ => rfl) ?_
  refine x_A k192_1 (fun _ => rfl) ?_
  refine x_callV k192_2 (y := 137) (n := 1) (w0 := 0) (w1 := 1) (as := [vi d]) (rest := []) (by decide +kernel) (q := 256) (nq := 62) (kq := 15) ⟨by decide, rfl⟩ rfl rfl rfl rfl (xe_mono (C_X11_isMark_256 s0 hG0 d (by first | exact x_rb b_d rfl rfl | exact ⟨by omega, by omega⟩)) ?_)
  rintro s555 v ⟨h_s555, z554, rfl, hz_z554⟩
  rw [h_s555]
  rcases hz_z554 with ⟨c_z554, e_z554⟩ | ⟨c_z554, e_z554⟩
  · rw [e_z554]
    show xe none 192 5 [(0, .ref 256), (1, vi a), (2, vi b), (3, vi d)] [vi 1] s0 0 0 _
    refine x_if_ne k192_5 (t := 12) rfl ⟨by decide, by decide⟩ (fun c556 => ?_) (fun c556 => by exfalso; omega)
    refine x_A k192_12 (fun _ => rfl) ?_
    refine x_A k192_13 (fun _ => rfl) ?_
    refine x_callS k192_14 (y := 190) (n := 2) (w0 := 0) (w1 := 2) (as := [vi a, vi b]) (rest := []) (by decide +kernel) rfl rfl rfl rfl (xe_mono (C_X11_isWord s0 hG0 a (by first | exact x_rb b_a rfl rfl | exact ⟨by omega, by omega⟩) b (by first | exact x_rb b_b rfl rfl | exact ⟨by omega, by omega⟩)) ?_)
    rintro s558 v ⟨h_s558, z557, rfl, hz_z557⟩
    rw [h_s558]
    rcases hz_z557 with ⟨c_z557, e_z557⟩ | ⟨c_z557, e_z557⟩
    · rw [e_z557]
      show xe none 192 17 [(0, .ref 256), (1, vi a), (2, vi b), (3, vi d)] [vi 1] s0 0 0 _
      refine x_if_ne k192_17 (t := 24) rfl ⟨by decide, by decide⟩ (fun c559 => ?_) (fun c559 => by exfalso; omega)
      refine x_A k192_24 (fun _ => rfl) ?_
      refine x_istore k192_25 (ls' := [(4, vi 0), (0, .ref 256), (1, vi a), (2, vi b), (3, vi d)]) (by decide) rfl ?_
      obtain ⟨z560, e_z560⟩ : ∃ z, z = s0 256 40 := ⟨_, rfl⟩
      have g_z560 : (0 : Int) ≤ s0 256 40 ∧ s0 256 40 ≤ 60 := hG0 256 40
      refine x_ls (l := [(0, .ref 256), (1, vi a), (2, vi b), (3, vi d), (4, vi 0)]) (show ([0, 1, 2, 3, 4] : List Nat).Nodup from by decide +kernel) ⟨rfl, rfl, rfl, rfl, rfl, trivial⟩ ?_
      exact L_E_X11_word_256_27 s0 a b_a b b_b d b_d  (((60 - 0) + 1 : Int)).toNat s0 a b d 0 z560 hG0 f0 (by first | exact x_rb b_a rfl rfl | exact ⟨by omega, by omega⟩) (by first | exact x_rb b_b rfl rfl | exact ⟨by omega, by omega⟩) (by first | exact x_rb b_d rfl rfl | exact ⟨by omega, by omega⟩) ⟨by decide, by decide⟩ (by first | exact x_rbe e_z560 g_z560 rfl rfl | exact x_rb g_z560 rfl rfl | exact ⟨by omega, by omega⟩) (by omega) (by omega) (by omega) (by omega) (by omega) (by omega) (by omega) (fun i i0 i1 => by omega) rfl (e_z560.symm).symm  (by omega)
    · rw [e_z557]
      show xe none 192 17 [(0, .ref 256), (1, vi a), (2, vi b), (3, vi d)] [vi 0] s0 0 0 _
      refine x_if_ne k192_17 (t := 24) rfl ⟨by decide, by decide⟩ (fun c561 => by exfalso; omega) (fun c561 => ?_)
      refine x_sipush k192_20 (by decide +kernel) ?_
      obtain ⟨z562, e_z562⟩ : ∃ z, z = s0 256 40 := ⟨_, rfl⟩
      have g_z562 : (0 : Int) ≤ s0 256 40 ∧ s0 256 40 ≤ 60 := hG0 256 40
      exact x_iret k192_23 rfl ⟨hG0, f0, (-1002), rfl, ⟨by decide, by decide⟩, (by unfold WdR; exact Or.inr (Or.inl ⟨by omega, by omega, rfl, rfl, rfl, rfl⟩))⟩
  · rw [e_z554]
    show xe none 192 5 [(0, .ref 256), (1, vi a), (2, vi b), (3, vi d)] [vi 0] s0 0 0 _
    refine x_if_ne k192_5 (t := 12) rfl ⟨by decide, by decide⟩ (fun c563 => by exfalso; omega) (fun c563 => ?_)
    refine x_sipush k192_8 (by decide +kernel) ?_
    obtain ⟨z564, e_z564⟩ : ∃ z, z = s0 256 40 := ⟨_, rfl⟩
    have g_z564 : (0 : Int) ≤ s0 256 40 ∧ s0 256 40 ≤ 60 := hG0 256 40
    exact x_iret k192_11 rfl ⟨hG0, f0, (-1001), rfl, ⟨by decide, by decide⟩, (by unfold WdR; exact Or.inl ⟨by omega, rfl, rfl, rfl, rfl⟩)⟩
set_option maxHeartbeats 8000000 in
theorem E_X6_byteAt_177 (s0 : xS) (hG0 : GI s0) (a : Int) (b_a : (-2147483648) ≤ a ∧ a ≤ 2147483647) : xe none 49 0 (lv_args 0 [.ref 177, vi a]) [] s0 0 0 (fun s' v => s' = s0 ∧ ∃ z, v = some (vi z) ∧ ((0 ≤ a ∧ a < s0 177 1 ∧ z = s0 178 a.toNat ∧ 0 ≤ z) ∨ (¬ (0 ≤ a ∧ a < s0 177 1) ∧ z = -1)) ∧ -1 ≤ z ∧ z ≤ 255) := by
  have f0 : FL [] s0 s0 := FL.rf
  show xe none 49 0 [(0, .ref 177), (1, vi a)] [] s0 0 0 _
  refine x_A k49_0 (fun _ => rfl) ?_
  refine x_if_lt k49_1 (t := 21) rfl (by first | exact x_rb b_a rfl rfl | exact ⟨by omega, by omega⟩) (fun c1 => ?_) (fun c1 => ?_)
  · skip
    refine x_A k49_21 (fun _ => rfl) ?_
    exact x_iret k49_22 rfl ⟨rfl, (-1), rfl, by omega⟩
  · skip
    refine x_A k49_4 (fun _ => rfl) ?_
    refine x_A k49_5 (fun _ => rfl) ?_
    refine x_getI k49_6 (f := 1) rfl (q := 177) (n := 7) (kd := 7) ⟨by decide, rfl⟩ (by decide) rfl ?_
    refine x_top (fun z2 e_z2 => ?_)
    have g_z2 : (0 : Int) ≤ s0 177 1 ∧ s0 177 1 ≤ 160 := hG0 177 1
    refine x_ic_ge k49_9 (t := 21) rfl (by first | exact x_rb b_a rfl rfl | exact ⟨by omega, by omega⟩) (by first | exact x_rbe e_z2 g_z2 rfl rfl | exact x_rb g_z2 rfl rfl | exact ⟨by omega, by omega⟩) (fun c3 => ?_) (fun c3 => ?_)
    · skip
      refine x_A k49_21 (fun _ => rfl) ?_
      exact x_iret k49_22 rfl ⟨rfl, (-1), rfl, by omega⟩
    · skip
      refine x_A k49_12 (fun _ => rfl) ?_
      refine x_getR k49_13 (f := 0) rfl (q := 177) (n := 7) (kd := 7) ⟨by decide, rfl⟩ (q2 := 178) (by decide) rfl ?_
      refine x_A k49_16 (fun _ => rfl) ?_
      refine x_iald k49_17 (q := 178) (n := 160) ⟨by decide, rfl⟩ (by decide) (by first | exact x_rbl b_a rfl rfl | exact ⟨by omega, by omega⟩) ?_
      refine x_top (fun z4 e_z4 => ?_)
      have g_z4 : (0 : Int) ≤ s0 178 a.toNat ∧ s0 178 a.toNat ≤ 255 := hG0 178 a.toNat
      refine x_goto k49_18 (t := 22) rfl ?_
      exact x_iret k49_22 rfl ⟨rfl, z4, rfl, by omega⟩
set_option maxHeartbeats 8000000 in
theorem E_X6_kindOf (s0 : xS) (hG0 : GI s0) (a : Int) (b_a : (-2147483648) ≤ a ∧ a ≤ 2147483647) : xe none 50 0 (lv_args 0 [vi a]) [] s0 0 0 (fun s' v => s' = s0 ∧ ∃ z, v = some (vi z) ∧ ((a = -1 ∧ z = 0) ∨ (a ≠ -1 ∧ (97 ≤ a ∧ a ≤ 122) ∧ z = 1) ∨ (a ≠ -1 ∧ (48 ≤ a ∧ a ≤ 57) ∧ z = 2) ∨ (a ≠ -1 ∧ ¬ (97 ≤ a ∧ a ≤ 122) ∧ ¬ (48 ≤ a ∧ a ≤ 57) ∧ z = 3)) ∧ 0 ≤ z ∧ z ≤ 3) := by
  have f0 : FL [] s0 s0 := FL.rf
  show xe none 50 0 [(0, vi a)] [] s0 0 0 _
  refine x_A k50_0 (fun _ => rfl) ?_
  refine x_A k50_1 (fun _ => rfl) ?_
  refine x_ic_ne k50_2 (t := 7) rfl (by first | exact x_rb b_a rfl rfl | exact ⟨by omega, by omega⟩) ⟨by decide, by decide⟩ (fun c1 => ?_) (fun c1 => ?_)
  · skip
    refine x_A k50_7 (fun _ => rfl) ?_
    refine x_bipush k50_8 (by decide +kernel) ?_
    refine x_ic_lt k50_10 (t := 21) rfl (by first | exact x_rb b_a rfl rfl | exact ⟨by omega, by omega⟩) ⟨by decide, by decide⟩ (fun c2 => ?_) (fun c2 => ?_)
    · skip
      refine x_A k50_21 (fun _ => rfl) ?_
      refine x_bipush k50_22 (by decide +kernel) ?_
      refine x_ic_lt k50_24 (t := 35) rfl (by first | exact x_rb b_a rfl rfl | exact ⟨by omega, by omega⟩) ⟨by decide, by decide⟩ (fun c3 => ?_) (fun c3 => ?_)
      · skip
        refine x_A k50_35 (fun _ => rfl) ?_
        exact x_iret k50_36 rfl ⟨rfl, 3, rfl, by omega⟩
      · skip
        refine x_A k50_27 (fun _ => rfl) ?_
        refine x_bipush k50_28 (by decide +kernel) ?_
        refine x_ic_gt k50_30 (t := 35) rfl (by first | exact x_rb b_a rfl rfl | exact ⟨by omega, by omega⟩) ⟨by decide, by decide⟩ (fun c4 => ?_) (fun c4 => ?_)
        · skip
          refine x_A k50_35 (fun _ => rfl) ?_
          exact x_iret k50_36 rfl ⟨rfl, 3, rfl, by omega⟩
        · skip
          refine x_A k50_33 (fun _ => rfl) ?_
          exact x_iret k50_34 rfl ⟨rfl, 2, rfl, by omega⟩
    · skip
      refine x_A k50_13 (fun _ => rfl) ?_
      refine x_bipush k50_14 (by decide +kernel) ?_
      refine x_ic_gt k50_16 (t := 21) rfl (by first | exact x_rb b_a rfl rfl | exact ⟨by omega, by omega⟩) ⟨by decide, by decide⟩ (fun c5 => ?_) (fun c5 => ?_)
      · skip
        refine x_A k50_21 (fun _ => rfl) ?_
        refine x_bipush k50_22 (by decide +kernel) ?_
        refine x_ic_lt k50_24 (t := 35) rfl (by first | exact x_rb b_a rfl rfl | exact ⟨by omega, by omega⟩) ⟨by decide, by decide⟩ (fun c6 => by exfalso; omega) (fun c6 => ?_)
        refine x_A k50_27 (fun _ => rfl) ?_
        refine x_bipush k50_28 (by decide +kernel) ?_
        refine x_ic_gt k50_30 (t := 35) rfl (by first | exact x_rb b_a rfl rfl | exact ⟨by omega, by omega⟩) ⟨by decide, by decide⟩ (fun c7 => ?_) (fun c7 => by exfalso; omega)
        refine x_A k50_35 (fun _ => rfl) ?_
        exact x_iret k50_36 rfl ⟨rfl, 3, rfl, by omega⟩
      · skip
        refine x_A k50_19 (fun _ => rfl) ?_
        exact x_iret k50_20 rfl ⟨rfl, 1, rfl, by omega⟩
  · skip
    refine x_A k50_5 (fun _ => rfl) ?_
    exact x_iret k50_6 rfl ⟨rfl, 0, rfl, by omega⟩
set_option maxHeartbeats 8000000 in
theorem E_X6_fail_177 (s0 : xS) (hG0 : GI s0) (a : Int) (b_a : 1 ≤ a ∧ a ≤ 5) (b : Int) (b_b : (-2147483648) ≤ b ∧ b ≤ 2147483647) : xe none 52 0 (lv_args 0 [.ref 177, vi a, vi b]) [] s0 0 0 (fun s' v => GI s' ∧ FL [1222, 1223] s0 s' ∧ v = none ∧ ((s0 177 5 ≠ 0 ∧ s' 177 5 = s0 177 5 ∧ s' 177 6 = s0 177 6) ∨ (s0 177 5 = 0 ∧ s' 177 5 = a ∧ s' 177 6 = b))) := by
  have f0 : FL [1222, 1223] s0 s0 := FL.rf
  show xe none 52 0 [(0, .ref 177), (1, vi a), (2, vi b)] [] s0 0 0 _
  refine x_A k52_0 (fun _ => rfl) ?_
  refine x_getI k52_1 (f := 5) rfl (q := 177) (n := 7) (kd := 7) ⟨by decide, rfl⟩ (by decide) rfl ?_
  refine x_top (fun z1 e_z1 => ?_)
  have g_z1 : (0 : Int) ≤ s0 177 5 ∧ s0 177 5 ≤ 5 := hG0 177 5
  refine x_if_eq k52_4 (t := 8) rfl (by first | exact x_rbe e_z1 g_z1 rfl rfl | exact x_rb g_z1 rfl rfl | exact ⟨by omega, by omega⟩) (fun c2 => ?_) (fun c2 => ?_)
  · skip
    refine x_A k52_8 (fun _ => rfl) ?_
    refine x_A k52_9 (fun _ => rfl) ?_
    refine x_putI k52_10 (f := 5) rfl (q := 177) (n := 7) (kd := 7) ⟨by decide, rfl⟩ rfl rfl rfl ?_
    refine x_nh (fun s3 e_s3 => ?_)
    have hG_s3 : GI s3 := by rw [e_s3]; exact hG0.up (show 0 ≤ a ∧ a ≤ 5 from (by first | exact x_rb b_a rfl rfl | exact ⟨by omega, by omega⟩))
    have f_s3 : FL [1222, 1223] s0 s3 := by rw [e_s3]; exact f0.up (show 1222 ∈ [1222, 1223] from by decide +kernel)
    have q4 : s3 177 5 = a := by rw [e_s3]; exact x_up_same
    refine x_A k52_13 (fun _ => rfl) ?_
    refine x_A k52_14 (fun _ => rfl) ?_
    refine x_putI k52_15 (f := 6) rfl (q := 177) (n := 7) (kd := 7) ⟨by decide, rfl⟩ rfl rfl rfl ?_
    refine x_nh (fun s5 e_s5 => ?_)
    have hG_s5 : GI s5 := by rw [e_s5]; exact hG_s3.up (show (-2147483648) ≤ b ∧ b ≤ 2147483647 from (by first | exact x_rb b_b rfl rfl | exact ⟨by omega, by omega⟩))
    have f_s5 : FL [1222, 1223] s0 s5 := by rw [e_s5]; exact f_s3.up (show 1223 ∈ [1222, 1223] from by decide +kernel)
    have q6 : s5 177 5 = a := by rw [e_s5, x_up_i (by decide)]; exact q4
    have q7 : s5 177 6 = b := by rw [e_s5]; exact x_up_same
    exact x_vret k52_18 rfl ⟨hG_s5, f_s5, rfl, by omega⟩
  · skip
    obtain ⟨z8, e_z8⟩ : ∃ z, z = s0 177 6 := ⟨_, rfl⟩
    have g_z8 : (-2147483648) ≤ s0 177 6 ∧ s0 177 6 ≤ 2147483647 := hG0 177 6
    exact x_vret k52_7 rfl ⟨hG0, f0, rfl, by omega⟩
set_option maxHeartbeats 8000000 in
theorem L_E_X6_advance_177_95 (s0 : xS) (pa : s0 177 4 ≤ s0 177 1)  : ∀ (n : Nat) (s : xS) (x1000 : Int) (x1001 : Int) (x1002 : Int) (x1003 : Int) (hG : GI s) (f : FL [1219, 1220, 1221] s0 s) (b_x1000 : 0 ≤ x1000 ∧ x1000 ≤ 160) (b_x1001 : 1 ≤ x1001 ∧ x1001 ≤ 2) (b_x1002 : 0 ≤ x1002 ∧ x1002 ≤ 160) (b_x1003 : 1 ≤ x1003 ∧ x1003 ≤ 161) (r_1002_1003 : x1002 ≤ x1003 + 0) (w_0 : x1000 = s0 177 1) (w_1 : 0 ≤ x1002 ∧ x1002 < x1000) (w_2 : x1002 < x1003 ∧ x1003 ≤ x1000) (w_3 : x1001 = 1 ∨ x1001 = 2) (w_4 : x1001 = kd (s0 178) (s0 177 1) x1002) (w_5 : sk (s0 178) (s0 177 1) (s0 177 4) = x1002) (w_6 : sk (s0 178) (s0 177 1) x1002 = x1002) (w_7 : te (s0 178) (s0 177 1) x1002 = rk (s0 178) (s0 177 1) x1001 x1003) (e_x1000 : x1000 = s 177 1) (e_x1001 : x1001 = s 177 2) (e_x1002 : x1002 = s 177 3) (e_x1003 : x1003 = s 177 4)  (hm : (161 - x1003) < (n : Int)), xe none 51 95 [(0, .ref 177)] [] s 0 0 (fun s' v => GI s' ∧ FL [1219, 1220, 1221] s0 s' ∧ v = none ∧ (TK s' (s0 178) (s0 177 1) (sk (s0 178) (s0 177 1) (s0 177 4)))) := by
  intro n
  induction n with
  | zero => intro s x1000 x1001 x1002 x1003 hG f b_x1000 b_x1001 b_x1002 b_x1003 r_1002_1003 w_0 w_1 w_2 w_3 w_4 w_5 w_6 w_7 e_x1000 e_x1001 e_x1002 e_x1003  hm; exfalso; omega
  | succ n ih =>
    intro s x1000 x1001 x1002 x1003 hG f b_x1000 b_x1001 b_x1002 b_x1003 r_1002_1003 w_0 w_1 w_2 w_3 w_4 w_5 w_6 w_7 e_x1000 e_x1001 e_x1002 e_x1003  hm
    refine x_A k51_95 (fun _ => rfl) ?_
    refine x_getI k51_96 (f := 4) rfl (q := 177) (n := 7) (kd := 7) ⟨by decide, rfl⟩ (by decide) rfl ?_
    refine x_rw (e_x1003.symm) ?_
    refine x_A k51_99 (fun _ => rfl) ?_
    refine x_getI k51_100 (f := 1) rfl (q := 177) (n := 7) (kd := 7) ⟨by decide, rfl⟩ (by decide) rfl ?_
    refine x_rw (e_x1000.symm) ?_
    refine x_ic_ge k51_103 (t := 137) rfl (by first | exact x_rb b_x1003 rfl rfl | exact ⟨by omega, by omega⟩) (by first | exact x_rb b_x1000 rfl rfl | exact ⟨by omega, by omega⟩) (fun c201 => ?_) (fun c201 => ?_)
    · skip
      exact x_vret k51_137 rfl ⟨hG, f, rfl, (by rw [w_5]; exact ⟨⟨by omega, by omega⟩, w_6, by omega, by omega, by rw [w_7, rk_n (by omega) (by omega)]; omega⟩)⟩
    · skip
      refine x_A k51_106 (fun _ => rfl) ?_
      refine x_A k51_107 (fun _ => rfl) ?_
      refine x_getI k51_108 (f := 4) rfl (q := 177) (n := 7) (kd := 7) ⟨by decide, rfl⟩ (by decide) rfl ?_
      refine x_rw (e_x1003.symm) ?_
      refine x_callV k51_111 (y := 49) (n := 1) (w0 := 0) (w1 := 1) (as := [vi x1003]) (rest := []) (by decide +kernel) (q := 177) (nq := 7) (kq := 7) ⟨by decide, rfl⟩ rfl rfl rfl rfl (xe_mono (E_X6_byteAt_177 s hG x1003 (by first | exact x_rb b_x1003 rfl rfl | exact ⟨by omega, by omega⟩)) ?_)
      rintro s203 v ⟨h_s203, z202, rfl, g_z202⟩
      rw [h_s203]
      show xe none 51 114 [(0, .ref 177)] [vi z202] s 0 0 _
      rw [(show s 178 = s0 178 from funext fun i => f 178 i (show 1280 ∉ [1219, 1220, 1221] from by decide +kernel))] at g_z202
      refine x_callS k51_114 (y := 50) (n := 1) (w0 := 0) (w1 := 1) (as := [vi z202]) (rest := []) (by decide +kernel) rfl rfl rfl rfl (xe_mono (E_X6_kindOf s hG z202 (by first | exact x_rbe e_z202 g_z202 rfl rfl | exact x_rb g_z202 rfl rfl | exact ⟨by omega, by omega⟩)) ?_)
      rintro s205 v ⟨h_s205, z204, rfl, g_z204⟩
      rw [h_s205]
      show xe none 51 117 [(0, .ref 177)] [vi z204] s 0 0 _
      refine x_A k51_117 (fun _ => rfl) ?_
      refine x_getI k51_118 (f := 2) rfl (q := 177) (n := 7) (kd := 7) ⟨by decide, rfl⟩ (by decide) rfl ?_
      refine x_rw (e_x1001.symm) ?_
      refine x_ic_ne k51_121 (t := 137) rfl (by first | exact x_rbe e_z204 g_z204 rfl rfl | exact x_rb g_z204 rfl rfl | exact ⟨by omega, by omega⟩) (by first | exact x_rb b_x1001 rfl rfl | exact ⟨by omega, by omega⟩) (fun c206 => ?_) (fun c206 => ?_)
      · skip
        exact x_vret k51_137 rfl ⟨hG, f, rfl, (by rw [w_5]; exact ⟨⟨by omega, by omega⟩, w_6, by omega, by omega, by rw [w_7, rk_n (by omega) (by omega)]; omega⟩)⟩
      · skip
        refine x_A k51_124 (fun _ => rfl) ?_
        refine x_A k51_125 (fun _ => rfl) ?_
        refine x_getI k51_126 (f := 4) rfl (q := 177) (n := 7) (kd := 7) ⟨by decide, rfl⟩ (by decide) rfl ?_
        refine x_rw (e_x1003.symm) ?_
        refine x_A k51_129 (fun _ => rfl) ?_
        refine x_iadd k51_130 ?_
        refine x_top (fun z207 e_z207 => ?_)
        refine x_putI k51_131 (f := 4) rfl (q := 177) (n := 7) (kd := 7) ⟨by decide, rfl⟩ rfl rfl rfl ?_
        refine x_nh (fun s208 e_s208 => ?_)
        have hG_s208 : GI s208 := by rw [e_s208]; exact hG.up (show 0 ≤ z207 ∧ z207 ≤ 160 from (by first | exact x_rbe e_z207 g_z207 rfl rfl | exact x_rb g_z207 rfl rfl | exact ⟨by omega, by omega⟩))
        have f_s208 : FL [1219, 1220, 1221] s0 s208 := by rw [e_s208]; exact f.up (show 1221 ∈ [1219, 1220, 1221] from by decide +kernel)
        have q209 : s208 177 1 = x1000 := by rw [e_s208, x_up_i (by decide)]; exact e_x1000.symm
        have q210 : s208 177 2 = x1001 := by rw [e_s208, x_up_i (by decide)]; exact e_x1001.symm
        have q211 : s208 177 3 = x1002 := by rw [e_s208, x_up_i (by decide)]; exact e_x1002.symm
        have q212 : s208 177 4 = z207 := by rw [e_s208]; exact x_up_same
        refine x_goto k51_134 (t := 95) rfl ?_
        refine x_ls (l := [(0, .ref 177)]) (show ([0] : List Nat).Nodup from by decide +kernel) ⟨rfl, trivial⟩ ?_
        exact ih s208 x1000 x1001 x1002 z207 hG_s208 f_s208 (by first | exact x_rb b_x1000 rfl rfl | exact ⟨by omega, by omega⟩) (by first | exact x_rb b_x1001 rfl rfl | exact ⟨by omega, by omega⟩) (by first | exact x_rb b_x1002 rfl rfl | exact ⟨by omega, by omega⟩) (by first | exact x_rbe e_z207 g_z207 rfl rfl | exact x_rb g_z207 rfl rfl | exact ⟨by omega, by omega⟩) (by omega) (by omega) (by omega) (by omega) (by omega) w_4 w_5 w_6 (by rw [show z207 = x1003 + 1 by omega]; exact w_7.trans (rk_y (by omega) (by omega))) (q209).symm (q210).symm (q211).symm (q212).symm  (by omega)
