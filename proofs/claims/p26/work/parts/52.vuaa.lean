set_option maxHeartbeats 8000000 in
theorem E_X8_shows_243 (s0 : xS) (hG0 : GI s0) (a : Int) (b_a : 0 ≤ a ∧ a ≤ 39) (b : Int) (b_b : 0 ≤ b ∧ b ≤ 39) : xe none 78 0 (lv_args 0 [.ref 243, vi a, vi b]) [] s0 0 0 (fun s' v => GI s' ∧ FL [] s0 s' ∧ ∃ z, v = some (vi z) ∧ (0 ≤ z ∧ z ≤ 1) ∧ ((z = 1 ∧ bt (s0 255 a.toNat) b.toNat = true) ∨ (z = 0 ∧ ¬ bt (s0 255 a.toNat) b.toNat = true))) := by
  have f0 : FL [] s0 s0 := FL.rf
  show xe none 78 0 [(0, .ref 243), (1, vi a), (2, vi b)] [] s0 0 0 _
  refine x_A k78_0 (fun _ => rfl) ?_
  refine x_getR k78_1 (f := 10) rfl (q := 243) (n := 13) (kd := 13) ⟨by decide, rfl⟩ (q2 := 255) (by decide) rfl ?_
  refine x_A k78_4 (fun _ => rfl) ?_
  refine x_lald k78_5 (q := 255) (n := 40) ⟨by decide, rfl⟩ (by decide) ⟨by omega, by omega⟩ ?_
  refine x_topL (fun z1 e_z1 => ?_)
  have b_z1 : in64 z1 := by rw [e_z1]; exact hG0 255 a.toNat
  refine x_A k78_6 (fun _ => rfl) ?_
  refine x_lushr_b k78_7 ⟨by omega, by omega⟩ (fun z2 b_z2 g_z2 => ?_)
  refine x_lconst k78_8 (z := 1) (by decide +kernel) ?_
  refine x_land_b k78_9 (fun z3 b_z3 g_z3 => ?_)
  refine x_lconst k78_10 (z := 0) (by decide +kernel) ?_
  refine x_lc_eq k78_11 k78_12 (t := 19) rfl b_z3 ⟨by omega, by omega⟩ (fun c4 => ?_) (fun c4 => ?_)
  · skip
    refine x_A k78_19 (fun _ => rfl) ?_
    exact x_zret k78_20 rfl ⟨by omega, by omega⟩ ⟨hG0, f0, 0, rfl, ⟨by omega, by omega⟩, (by have bl := bt_low b_z3 g_z3; have bu : bt z2 0 = bt z1 b.toNat := g_z2 0; rw [show bt (s0 255 a.toNat) b.toNat = bt z1 b.toNat by rw [e_z1]]; exact Or.inr ⟨rfl, fun w => bl.elim (fun q => by rw [bu.symm.trans q.2] at w; cases w) (fun q => absurd (show z3 = 0 by omega) q.1)⟩)⟩
  · skip
    refine x_A k78_15 (fun _ => rfl) ?_
    refine x_goto k78_16 (t := 20) rfl ?_
    exact x_zret k78_20 rfl ⟨by omega, by omega⟩ ⟨hG0, f0, 1, rfl, ⟨by omega, by omega⟩, (by have bl := bt_low b_z3 g_z3; have bu : bt z2 0 = bt z1 b.toNat := g_z2 0; rw [show bt (s0 255 a.toNat) b.toNat = bt z1 b.toNat by rw [e_z1]]; exact Or.inl ⟨rfl, bl.elim (fun q => absurd q.1 (by omega)) (fun q => bu.symm.trans q.2)⟩)⟩
set_option maxHeartbeats 8000000 in
theorem L_W_X10_likely_0_61 (s0 : xS) (hJ0 : J s0) (hG0 : GI s0) (a : Int) (b_a : (-2147483648) ≤ a ∧ a ≤ 2147483647) (b : Int) (b_b : (-2147483648) ≤ b ∧ b ≤ 2147483647) (d : Int) (b_d : (-2147483648) ≤ d ∧ d ≤ 2147483647) (pR : R1 s0) (n_53 : Nat) (ih_53 : ∀ (s : xS) (x1 : Int) (x2 : Int) (x3 : Int) (x4 : Int) (x6 : Int) (x7 : Int) (x1000 : Int) (hG : GI s) (f : FL [3329, 3334, 3335, 3336, 3392, 3456, 3520, 3584, 3276, 3648, 3712, 3776, 3840, 3904, 3968, 3277, 4032] s0 s) (b_x1 : 0 ≤ x1 ∧ x1 ≤ 39) (b_x2 : 0 ≤ x2 ∧ x2 ≤ 9) (b_x3 : (-2147483648) ≤ x3 ∧ x3 ≤ 2147483647) (b_x4 : in64 x4) (b_x6 : 0 ≤ x6 ∧ x6 ≤ 40) (b_x7 : 0 ≤ x7 ∧ x7 ≤ 127) (b_x1000 : 0 ≤ x1000 ∧ x1000 ≤ 40) (w_0 : x1 = a ∧ x2 = b ∧ x3 = d ∧ x1000 = s0 46 3 ∧ (0 ≤ a ∧ a < s0 1 4) ∧ 0 ≤ b ∧ b ≤ s0 0 10) (w_1 : 0 ≤ x7 ∧ 0 ≤ x6 ∧ x6 ≤ 40) (w_2 : VL s s0 b) (w_3 : ∀ k : Nat, k < 64 → (bt x4 k = true ↔ (k : Int) < s0 1 4 ∧ alC s0 b a (k : Int))) (w_4 : lkW (liN s0 b a (s0 1 4)) (s0 46 3).toNat d x7 0 x6) (e_x1000 : x1000 = s 46 3) (i_VCj : VCj s) (i_VCl : VCl s) (hm : (x7 - 0) < (n_53 : Int)), xe none 115 53 [(0, .ref 0), (1, vi x1), (2, vi x2), (3, vi x3), (4, vj x4), (6, vi x6), (7, vi x7)] [] s 0 0 (fun s' v => GI s' ∧ FL [3329, 3334, 3335, 3336, 3392, 3456, 3520, 3584, 3276, 3648, 3712, 3776, 3840, 3904, 3968, 3277, 4032] s0 s' ∧ ∃ z, v = some (vi z) ∧ ((-2147483648) ≤ z ∧ z ≤ 2147483647) ∧ (LkS s0 a b d z) ∧ VCj s' ∧ VCl s')) : ∀ (n : Nat) (s : xS) (x1 : Int) (x2 : Int) (x3 : Int) (x4 : Int) (x6 : Int) (x7 : Int) (x8 : Int) (x1000 : Int) (hG : GI s) (f : FL [3329, 3334, 3335, 3336, 3392, 3456, 3520, 3584, 3276, 3648, 3712, 3776, 3840, 3904, 3968, 3277, 4032] s0 s) (b_x1 : 0 ≤ x1 ∧ x1 ≤ 39) (b_x2 : 0 ≤ x2 ∧ x2 ≤ 9) (b_x3 : (-2147483648) ≤ x3 ∧ x3 ≤ 2147483647) (b_x4 : in64 x4) (b_x6 : 0 ≤ x6 ∧ x6 ≤ 40) (b_x7 : 1 ≤ x7 ∧ x7 ≤ 127) (b_x8 : 0 ≤ x8 ∧ x8 ≤ 40) (b_x1000 : 0 ≤ x1000 ∧ x1000 ≤ 40) (r_8_1000 : x8 ≤ x1000 + 0) (w_0 : x1 = a ∧ x2 = b ∧ x3 = d ∧ x1000 = s0 46 3 ∧ (0 ≤ a ∧ a < s0 1 4) ∧ 0 ≤ b ∧ b ≤ s0 0 10) (w_1 : 1 ≤ x7 ∧ 0 ≤ x6 ∧ x6 ≤ 40 ∧ x8 ≤ x1000) (w_2 : VL s s0 b) (w_3 : ∀ k : Nat, k < 64 → (bt x4 k = true ↔ (k : Int) < s0 1 4 ∧ alC s0 b a (k : Int))) (w_4 : lkW (liN s0 b a (s0 1 4)) (s0 46 3).toNat d x7 x8 x6) (e_x1000 : x1000 = s 46 3) (i_VCj : VCj s) (i_VCl : VCl s) (k_53 : (x7 - 0) < (n_53 : Int) + 1) (hm : (40 - x8) < (n : Int)), xe none 115 61 [(0, .ref 0), (1, vi x1), (2, vi x2), (3, vi x3), (4, vj x4), (6, vi x6), (7, vi x7), (8, vi x8)] [] s 0 0 (fun s' v => GI s' ∧ FL [3329, 3334, 3335, 3336, 3392, 3456, 3520, 3584, 3276, 3648, 3712, 3776, 3840, 3904, 3968, 3277, 4032] s0 s' ∧ ∃ z, v = some (vi z) ∧ ((-2147483648) ≤ z ∧ z ≤ 2147483647) ∧ (LkS s0 a b d z) ∧ VCj s' ∧ VCl s') := by
  intro n
  induction n with
  | zero => intro s x1 x2 x3 x4 x6 x7 x8 x1000 hG f b_x1 b_x2 b_x3 b_x4 b_x6 b_x7 b_x8 b_x1000 r_8_1000 w_0 w_1 w_2 w_3 w_4 e_x1000 i_VCj i_VCl k_53 hm; exfalso; omega
  | succ n ih =>
    intro s x1 x2 x3 x4 x6 x7 x8 x1000 hG f b_x1 b_x2 b_x3 b_x4 b_x6 b_x7 b_x8 b_x1000 r_8_1000 w_0 w_1 w_2 w_3 w_4 e_x1000 i_VCj i_VCl k_53 hm
    have g14_ : (1 : Int) ≤ s0 1 4 ∧ s0 1 4 ≤ 40 := hG0 1 4
    have g46_ : (0 : Int) ≤ s0 46 3 ∧ s0 46 3 ≤ 40 := hG0 46 3
    refine x_A k115_61 (fun _ => rfl) ?_
    refine x_A k115_63 (fun _ => rfl) ?_
    refine x_getR k115_64 (f := 1) rfl (q := 0) (n := 12) (kd := 3) ⟨by decide, rfl⟩ (q2 := 46) (by decide) rfl ?_
    refine x_getI k115_67 (f := 3) rfl (q := 46) (n := 4) (kd := 5) ⟨by decide, rfl⟩ (by decide) rfl ?_
    refine x_rw (e_x1000.symm) ?_
    refine x_ic_ge k115_70 (t := 128) rfl ⟨by omega, by omega⟩ ⟨by omega, by omega⟩ (fun c513 => ?_) (fun c513 => ?_)
    · skip
      refine x_iinc k115_128 (ls' := [(7, vi (x7 + (-1))), (0, .ref 0), (1, vi x1), (2, vi x2), (3, vi x3), (4, vj x4), (6, vi x6), (8, vi x8)]) rfl (by decide) rfl ?_
      refine x_goto k115_131 (t := 53) rfl ?_
      refine x_ls (l := [(0, .ref 0), (1, vi x1), (2, vi x2), (3, vi x3), (4, vj x4), (6, vi x6), (7, vi (x7 + (-1)))]) (show ([0, 1, 2, 3, 4, 6, 7] : List Nat).Nodup from by decide) ⟨rfl, rfl, rfl, rfl, rfl, rfl, rfl, trivial⟩ ?_
      exact ih_53 s x1 x2 x3 x4 x6 (x7 + (-1)) x1000 hG f ⟨by omega, by omega⟩ ⟨by omega, by omega⟩ ⟨by omega, by omega⟩ b_x4 ⟨by omega, by omega⟩ ⟨by omega, by omega⟩ ⟨by omega, by omega⟩ (by omega) (by omega) w_2 w_3 (by have q9 := lkW.next w_4 (by omega); rw [show x7 + -1 = x7 - 1 by omega]; exact q9) (e_x1000.symm).symm i_VCj i_VCl (by omega)
    · skip
      refine x_A k115_73 (fun _ => rfl) ?_
      refine x_getR k115_74 (f := 9) rfl (q := 0) (n := 12) (kd := 3) ⟨by decide, rfl⟩ (q2 := 243) (by decide) rfl ?_
      refine x_A k115_77 (fun _ => rfl) ?_
      refine x_A k115_79 (fun _ => rfl) ?_
      refine x_callV k115_80 (y := 78) (n := 2) (w0 := 0) (w1 := 2) (as := [vi x8, vi x1]) (rest := []) (by decide +kernel) (q := 243) (nq := 13) (kq := 13) ⟨by decide, rfl⟩ rfl rfl rfl rfl (xe_mono (E_X8_shows_243 s hG x8 ⟨by omega, by omega⟩ x1 ⟨by omega, by omega⟩) ?_)
      rintro s515 v ⟨-, t_s515, z514, rfl, g_z514, xp_z514⟩
      rw [t_s515.nil]
      try rw [t_s515.nil] at xp_z514
      show xe none 115 83 [(0, .ref 0), (1, vi x1), (2, vi x2), (3, vi x3), (4, vj x4), (6, vi x6), (7, vi x7), (8, vi x8)] [vi z514] s 0 0 _
      have sw := xp_z514
      rw [show x1 = a by omega, (w_2.2 x8 (by omega) (by omega) a.toNat (by omega)), show ((a.toNat : Nat) : Int) = a by omega] at sw
      refine x_if_ne k115_83 (t := 122) rfl ⟨by omega, by omega⟩ (fun c516 => ?_) (fun c516 => ?_)
      · skip
        refine x_iinc k115_122 (ls' := [(8, vi (x8 + 1)), (0, .ref 0), (1, vi x1), (2, vi x2), (3, vi x3), (4, vj x4), (6, vi x6), (7, vi x7)]) rfl (by decide) rfl ?_
        refine x_goto k115_125 (t := 61) rfl ?_
        refine x_ls (l := [(0, .ref 0), (1, vi x1), (2, vi x2), (3, vi x3), (4, vj x4), (6, vi x6), (7, vi x7), (8, vi (x8 + 1))]) (show ([0, 1, 2, 3, 4, 6, 7, 8] : List Nat).Nodup from by decide) ⟨rfl, rfl, rfl, rfl, rfl, rfl, rfl, rfl, trivial⟩ ?_
        exact ih s x1 x2 x3 x4 x6 x7 (x8 + 1) x1000 hG f ⟨by omega, by omega⟩ ⟨by omega, by omega⟩ ⟨by omega, by omega⟩ b_x4 ⟨by omega, by omega⟩ ⟨by omega, by omega⟩ ⟨by omega, by omega⟩ ⟨by omega, by omega⟩ (by omega) (by omega) (by omega) w_2 w_3 (lkW.skip w_4 (by omega) (fun q => by have q9 : (liN s0 b a (s0 1 4)) x8.toNat = 0 := (by unfold liN; exact pIf_y (by rw [show ((x8.toNat : Nat) : Int) = x8 by omega]; exact (sw.resolve_right (fun q => by omega)).2)); omega)) (e_x1000.symm).symm i_VCj i_VCl (by omega) (by omega)
      · skip
        refine x_A k115_86 (fun _ => rfl) ?_
        refine x_getR k115_87 (f := 9) rfl (q := 0) (n := 12) (kd := 3) ⟨by decide, rfl⟩ (q2 := 243) (by decide) rfl ?_
        refine x_getR k115_90 (f := 10) rfl (q := 243) (n := 13) (kd := 13) ⟨by decide, rfl⟩ (q2 := 255) (by decide) rfl ?_
        refine x_A k115_93 (fun _ => rfl) ?_
        refine x_lald k115_95 (q := 255) (n := 40) ⟨by decide, rfl⟩ (by decide) ⟨by omega, by omega⟩ ?_
        refine x_topL (fun z517 e_z517 => ?_)
        have b_z517 : in64 z517 := by rw [e_z517]; exact hG 255 x8.toNat
        refine x_A k115_96 (fun _ => rfl) ?_
        refine x_land_b k115_98 (fun z518 b_z518 g_z518 => ?_)
        refine x_callS k115_99 (y := 219) (n := 1) (w0 := 0) (w1 := 2) (as := [vj z518]) (rest := []) (by decide +kernel) rfl rfl rfl rfl (xe_mono (E_J13_bitCount_95d88 s hG z518 b_z518) ?_)
        rintro s520 v ⟨-, t_s520, z519, rfl, g_z519, xp_z519⟩
        rw [t_s520.nil]
        try rw [t_s520.nil] at xp_z519
        show xe none 115 102 [(0, .ref 0), (1, vi x1), (2, vi x2), (3, vi x3), (4, vj x4), (6, vi x6), (7, vi x7), (8, vi x8)] [vi z519] s 0 0 _
        have e8_ : ((x8.toNat : Nat) : Int) = x8 := by omega
        have zl : z519 = (liN s0 b a (s0 1 4)) x8.toNat := by
          unfold liN; rw [e8_, pIf_n (sw.resolve_left (fun q => by omega)).2, xp_z519, ctp_cut (n := (s0 1 4).toNat) (by omega) (fun k k1 k2 w => by rw [g_z518 k, Bool.and_eq_true] at w; have := ((w_3 k k2).mp w.2).1; omega)]
          exact ctp_cg _ (fun k hk => by rw [g_z518 k, Bool.and_eq_true, w_3 k (by omega), e_z517, w_2.2 x8 (by omega) (by omega) k (by omega)]; exact ⟨fun w => ⟨w.2.2, w.1⟩, fun w => ⟨w.2, by omega, w.1⟩⟩)
        refine x_A k115_102 (fun _ => rfl) ?_
        refine x_ic_eq k115_104 (t := 110) rfl ⟨by omega, by omega⟩ ⟨by omega, by omega⟩ (fun c521 => ?_) (fun c521 => ?_)
        · skip
          have fz : (liN s0 b a (s0 1 4)) x8.toNat = x7 := by omega
          have cx : 0 ≤ x6 ∧ x6 ≤ 39 := by have q := lkc_in (f := (liN s0 b a (s0 1 4))) (N := (s0 46 3).toNat) (sc := x7) (p := x8.toNat) (by omega) fz; have q2 := ctp_le (P := bfr (liN s0 b a (s0 1 4)) x7 (x8.toNat + 1)) (s0 46 3).toNat; have q3 := (ctp_ge (P := bfr (liN s0 b a (s0 1 4)) x7 x8.toNat) (s0 46 3).toNat).1; have q4 := w_4.1; unfold lkc at q q4; omega
          refine x_A k115_110 (fun _ => rfl) ?_
          refine x_A k115_112 (fun _ => rfl) ?_
          refine x_ic_ne k115_113 (t := 119) rfl ⟨by omega, by omega⟩ ⟨by omega, by omega⟩ (fun c522 => ?_) (fun c522 => ?_)
          · skip
            refine x_iinc k115_119 (ls' := [(6, vi (x6 + 1)), (0, .ref 0), (1, vi x1), (2, vi x2), (3, vi x3), (4, vj x4), (7, vi x7), (8, vi x8)]) rfl (by decide) rfl ?_
            refine x_iinc k115_122 (ls' := [(8, vi (x8 + 1)), (6, vi (x6 + 1)), (0, .ref 0), (1, vi x1), (2, vi x2), (3, vi x3), (4, vj x4), (7, vi x7)]) rfl (by decide) rfl ?_
            refine x_goto k115_125 (t := 61) rfl ?_
            refine x_ls (l := [(0, .ref 0), (1, vi x1), (2, vi x2), (3, vi x3), (4, vj x4), (6, vi (x6 + 1)), (7, vi x7), (8, vi (x8 + 1))]) (show ([0, 1, 2, 3, 4, 6, 7, 8] : List Nat).Nodup from by decide) ⟨rfl, rfl, rfl, rfl, rfl, rfl, rfl, rfl, trivial⟩ ?_
            exact ih s x1 x2 x3 x4 (x6 + 1) x7 (x8 + 1) x1000 hG f ⟨by omega, by omega⟩ ⟨by omega, by omega⟩ ⟨by omega, by omega⟩ b_x4 ⟨by omega, by omega⟩ ⟨by omega, by omega⟩ ⟨by omega, by omega⟩ ⟨by omega, by omega⟩ (by omega) (by omega) (by omega) w_2 w_3 (lkW.hit w_4 ⟨by omega, by omega⟩ fz (by omega)) (e_x1000.symm).symm i_VCj i_VCl (by omega) (by omega)
          · skip
            refine x_A k115_116 (fun _ => rfl) ?_
            exact x_iret k115_118 rfl ⟨hG, f, x8, rfl, ⟨by omega, by omega⟩, (by unfold LkS; exact Or.inr (Or.inr ⟨by omega, by omega, (lkW.got w_4 ⟨by omega, by omega⟩ fz (by omega) (by omega) (by omega))⟩)), i_VCj, i_VCl⟩
        · skip
          refine x_goto k115_107 (t := 122) rfl ?_
          refine x_iinc k115_122 (ls' := [(8, vi (x8 + 1)), (0, .ref 0), (1, vi x1), (2, vi x2), (3, vi x3), (4, vj x4), (6, vi x6), (7, vi x7)]) rfl (by decide) rfl ?_
          refine x_goto k115_125 (t := 61) rfl ?_
          refine x_ls (l := [(0, .ref 0), (1, vi x1), (2, vi x2), (3, vi x3), (4, vj x4), (6, vi x6), (7, vi x7), (8, vi (x8 + 1))]) (show ([0, 1, 2, 3, 4, 6, 7, 8] : List Nat).Nodup from by decide) ⟨rfl, rfl, rfl, rfl, rfl, rfl, rfl, rfl, trivial⟩ ?_
          exact ih s x1 x2 x3 x4 x6 x7 (x8 + 1) x1000 hG f ⟨by omega, by omega⟩ ⟨by omega, by omega⟩ ⟨by omega, by omega⟩ b_x4 ⟨by omega, by omega⟩ ⟨by omega, by omega⟩ ⟨by omega, by omega⟩ ⟨by omega, by omega⟩ (by omega) (by omega) (by omega) w_2 w_3 (lkW.skip w_4 (by omega) (by omega)) (e_x1000.symm).symm i_VCj i_VCl (by omega) (by omega)
set_option maxHeartbeats 8000000 in
theorem L_W_X10_likely_0_53 (s0 : xS) (hJ0 : J s0) (hG0 : GI s0) (a : Int) (b_a : (-2147483648) ≤ a ∧ a ≤ 2147483647) (b : Int) (b_b : (-2147483648) ≤ b ∧ b ≤ 2147483647) (d : Int) (b_d : (-2147483648) ≤ d ∧ d ≤ 2147483647) (pR : R1 s0)  : ∀ (n : Nat) (s : xS) (x1 : Int) (x2 : Int) (x3 : Int) (x4 : Int) (x6 : Int) (x7 : Int) (x1000 : Int) (hG : GI s) (f : FL [3329, 3334, 3335, 3336, 3392, 3456, 3520, 3584, 3276, 3648, 3712, 3776, 3840, 3904, 3968, 3277, 4032] s0 s) (b_x1 : 0 ≤ x1 ∧ x1 ≤ 39) (b_x2 : 0 ≤ x2 ∧ x2 ≤ 9) (b_x3 : (-2147483648) ≤ x3 ∧ x3 ≤ 2147483647) (b_x4 : in64 x4) (b_x6 : 0 ≤ x6 ∧ x6 ≤ 40) (b_x7 : 0 ≤ x7 ∧ x7 ≤ 127) (b_x1000 : 0 ≤ x1000 ∧ x1000 ≤ 40) (w_0 : x1 = a ∧ x2 = b ∧ x3 = d ∧ x1000 = s0 46 3 ∧ (0 ≤ a ∧ a < s0 1 4) ∧ 0 ≤ b ∧ b ≤ s0 0 10) (w_1 : 0 ≤ x7 ∧ 0 ≤ x6 ∧ x6 ≤ 40) (w_2 : VL s s0 b) (w_3 : ∀ k : Nat, k < 64 → (bt x4 k = true ↔ (k : Int) < s0 1 4 ∧ alC s0 b a (k : Int))) (w_4 : lkW (liN s0 b a (s0 1 4)) (s0 46 3).toNat d x7 0 x6) (e_x1000 : x1000 = s 46 3) (i_VCj : VCj s) (i_VCl : VCl s)  (hm : (x7 - 0) < (n : Int)), xe none 115 53 [(0, .ref 0), (1, vi x1), (2, vi x2), (3, vi x3), (4, vj x4), (6, vi x6), (7, vi x7)] [] s 0 0 (fun s' v => GI s' ∧ FL [3329, 3334, 3335, 3336, 3392, 3456, 3520, 3584, 3276, 3648, 3712, 3776, 3840, 3904, 3968, 3277, 4032] s0 s' ∧ ∃ z, v = some (vi z) ∧ ((-2147483648) ≤ z ∧ z ≤ 2147483647) ∧ (LkS s0 a b d z) ∧ VCj s' ∧ VCl s') := by
  intro n
  induction n with
  | zero => intro s x1 x2 x3 x4 x6 x7 x1000 hG f b_x1 b_x2 b_x3 b_x4 b_x6 b_x7 b_x1000 w_0 w_1 w_2 w_3 w_4 e_x1000 i_VCj i_VCl  hm; exfalso; omega
  | succ n ih =>
    intro s x1 x2 x3 x4 x6 x7 x1000 hG f b_x1 b_x2 b_x3 b_x4 b_x6 b_x7 b_x1000 w_0 w_1 w_2 w_3 w_4 e_x1000 i_VCj i_VCl  hm
    have g14_ : (1 : Int) ≤ s0 1 4 ∧ s0 1 4 ≤ 40 := hG0 1 4
    have g46_ : (0 : Int) ≤ s0 46 3 ∧ s0 46 3 ≤ 40 := hG0 46 3
    refine x_A k115_53 (fun _ => rfl) ?_
    refine x_if_le k115_55 (t := 134) rfl ⟨by omega, by omega⟩ (fun c523 => ?_) (fun c523 => ?_)
    · skip
      refine x_A k115_134 (fun _ => rfl) ?_
      refine x_A k115_135 (fun _ => rfl) ?_
      refine x_ic_ne k115_136 (t := 144) rfl ⟨by omega, by omega⟩ ⟨by omega, by omega⟩ (fun c524 => ?_) (fun c524 => ?_)
      · skip
        refine x_A k115_144 (fun _ => rfl) ?_
        exact x_iret k115_145 rfl ⟨hG, f, (-1), rfl, ⟨by omega, by omega⟩, (by unfold LkS; exact Or.inr (Or.inr ⟨by omega, by omega, (Or.inr ⟨by omega, Or.inl ⟨rfl, (lkW.fin w_4 rfl (by omega)).2⟩⟩)⟩)), i_VCj, i_VCl⟩
      · skip
        refine x_A k115_139 (fun _ => rfl) ?_
        refine x_goto k115_141 (t := 145) rfl ?_
        exact x_iret k115_145 rfl ⟨hG, f, x6, rfl, ⟨by omega, by omega⟩, (by unfold LkS; exact Or.inr (Or.inr ⟨by omega, by omega, (Or.inl ⟨by omega, (lkW.fin w_4 rfl (by omega)).1⟩)⟩)), i_VCj, i_VCl⟩
    · skip
      refine x_A k115_58 (fun _ => rfl) ?_
      refine x_istore k115_59 (ls' := [(8, vi 0), (0, .ref 0), (1, vi x1), (2, vi x2), (3, vi x3), (4, vj x4), (6, vi x6), (7, vi x7)]) (by decide) rfl ?_
      refine x_ls (l := [(0, .ref 0), (1, vi x1), (2, vi x2), (3, vi x3), (4, vj x4), (6, vi x6), (7, vi x7), (8, vi 0)]) (show ([0, 1, 2, 3, 4, 6, 7, 8] : List Nat).Nodup from by decide) ⟨rfl, rfl, rfl, rfl, rfl, rfl, rfl, rfl, trivial⟩ ?_
      exact L_W_X10_likely_0_61 s0 hJ0 hG0 a b_a b b_b d b_d pR n (fun s x1 x2 x3 x4 x6 x7 x1000 hG f b_x1 b_x2 b_x3 b_x4 b_x6 b_x7 b_x1000 w_0 w_1 w_2 w_3 w_4 e_x1000 i_VCj i_VCl hm => ih s x1 x2 x3 x4 x6 x7 x1000 hG f b_x1 b_x2 b_x3 b_x4 b_x6 b_x7 b_x1000 w_0 w_1 w_2 w_3 w_4 e_x1000 i_VCj i_VCl  hm) (((40 - 0) + 1 : Int)).toNat s x1 x2 x3 x4 x6 x7 0 x1000 hG f ⟨by omega, by omega⟩ ⟨by omega, by omega⟩ ⟨by omega, by omega⟩ b_x4 ⟨by omega, by omega⟩ ⟨by omega, by omega⟩ ⟨by omega, by omega⟩ ⟨by omega, by omega⟩ (by omega) (by omega) (by omega) w_2 w_3 w_4 (e_x1000.symm).symm i_VCj i_VCl (by omega) (by omega)
set_option maxHeartbeats 8000000 in
theorem W_X10_likely_0 (s0 : xS) (hG0 : GI s0) (hJ0 : J s0) (a : Int) (b_a : (-2147483648) ≤ a ∧ a ≤ 2147483647) (b : Int) (b_b : (-2147483648) ≤ b ∧ b ≤ 2147483647) (d : Int) (b_d : (-2147483648) ≤ d ∧ d ≤ 2147483647) (p_1_4 : 1 ≤ s0 1 4 ∧ s0 1 4 ≤ 40) (p_0_10 : 0 ≤ s0 0 10 ∧ s0 0 10 ≤ 9) (p_46_3 : 0 ≤ s0 46 3 ∧ s0 46 3 ≤ 40) (pR : R1 s0) (i0_VCj : VCj s0) (i0_VCl : VCl s0) : xe none 115 0 (lv_args 0 [.ref 0, vi a, vi b, vi d]) [] s0 0 0 (fun s' v => GI s' ∧ FL [3329, 3334, 3335, 3336, 3392, 3456, 3520, 3584, 3276, 3648, 3712, 3776, 3840, 3904, 3968, 3277, 4032] s0 s' ∧ ∃ z, v = some (vi z) ∧ ((-2147483648) ≤ z ∧ z ≤ 2147483647) ∧ (LkS s0 a b d z) ∧ VCj s' ∧ VCl s') := by
  have f0 : FL [3329, 3334, 3335, 3336, 3392, 3456, 3520, 3584, 3276, 3648, 3712, 3776, 3840, 3904, 3968, 3277, 4032] s0 s0 := FL.rf
  show xe none 115 0 [(0, .ref 0), (1, vi a), (2, vi b), (3, vi d)] [] s0 0 0 _
  obtain ⟨z525, e_z525⟩ : ∃ z, z = s0 1 4 := ⟨_, rfl⟩
  have g_z525 : (1 : Int) ≤ s0 1 4 ∧ s0 1 4 ≤ 40 := hG0 1 4
  obtain ⟨z526, e_z526⟩ : ∃ z, z = s0 0 10 := ⟨_, rfl⟩
  have g_z526 : (0 : Int) ≤ s0 0 10 ∧ s0 0 10 ≤ 9 := hG0 0 10
  obtain ⟨z527, e_z527⟩ : ∃ z, z = s0 46 3 := ⟨_, rfl⟩
  have g_z527 : (0 : Int) ≤ s0 46 3 ∧ s0 46 3 ≤ 40 := hG0 46 3
  refine x_A k115_0 (fun _ => rfl) ?_
  refine x_getR k115_1 (f := 0) rfl (q := 0) (n := 12) (kd := 3) ⟨by decide, rfl⟩ (q2 := 1) (by decide) rfl ?_
  refine x_A k115_4 (fun _ => rfl) ?_
  refine x_callV k115_5 (y := 59) (n := 1) (w0 := 0) (w1 := 1) (as := [vi a]) (rest := []) (by decide +kernel) (q := 1) (nq := 5) (kq := 4) ⟨by decide, rfl⟩ rfl rfl rfl rfl (xe_mono (C_X7_has_1 s0 hG0 a ⟨by omega, by omega⟩) ?_)
  rintro s529 v ⟨h_s529, z528, rfl, hz_z528⟩
  rw [h_s529]
  rcases hz_z528 with ⟨c_z528, e_z528⟩ | ⟨c_z528, e_z528⟩
  · rw [e_z528]
    show xe none 115 8 [(0, .ref 0), (1, vi a), (2, vi b), (3, vi d)] [vi 1] s0 0 0 _
    refine x_if_ne k115_8 (t := 15) rfl ⟨by omega, by omega⟩ (fun c530 => ?_) (fun c530 => by exfalso; omega)
    refine x_A k115_15 (fun _ => rfl) ?_
    refine x_A k115_16 (fun _ => rfl) ?_
    refine x_callV k115_17 (y := 125) (n := 1) (w0 := 0) (w1 := 1) (as := [vi b]) (rest := []) (by decide +kernel) (q := 0) (nq := 12) (kq := 3) ⟨by decide, rfl⟩ rfl rfl rfl rfl (xe_mono (C_X10_isKnownEdition_0 s0 hG0 b ⟨by omega, by omega⟩) ?_)
    rintro s532 v ⟨h_s532, z531, rfl, hz_z531⟩
    rw [h_s532]
    rcases hz_z531 with ⟨c_z531, e_z531⟩ | ⟨c_z531, e_z531⟩
    · rw [e_z531]
      show xe none 115 20 [(0, .ref 0), (1, vi a), (2, vi b), (3, vi d)] [vi 1] s0 0 0 _
      refine x_if_ne k115_20 (t := 27) rfl ⟨by omega, by omega⟩ (fun c533 => ?_) (fun c533 => by exfalso; omega)
      refine x_A k115_27 (fun _ => rfl) ?_
      refine x_getR k115_28 (f := 9) rfl (q := 0) (n := 12) (kd := 3) ⟨by decide, rfl⟩ (q2 := 243) (by decide) rfl ?_
      refine x_A k115_31 (fun _ => rfl) ?_
      refine x_callV k115_32 (y := 76) (n := 1) (w0 := 0) (w1 := 1) (as := [vi b]) (rest := []) (by decide +kernel) (q := 243) (nq := 13) (kq := 13) ⟨by decide, rfl⟩ rfl rfl rfl rfl (xe_mono (E_X8_lookIn_243 s0 hG0 (hJ0.fl f0 (by decide)) b ⟨by omega, by omega⟩ (pR.fl f0 (by decide)) i0_VCj i0_VCl) ?_)
      rintro s535 v ⟨hG_s535, t_s535, rfl, xp_z534⟩
      have f_s535 : FL [3329, 3334, 3335, 3336, 3392, 3456, 3520, 3584, 3276, 3648, 3712, 3776, 3840, 3904, 3968, 3277, 4032] s0 s535 := f0.tr t_s535 (by decide)
      have q536 : s535 1 4 = z525 := (t_s535 1 4 (show 69 ∉ [3329, 3334, 3335, 3336, 3392, 3456, 3520, 3584, 3276, 3648, 3712, 3776, 3840, 3904, 3968, 3277, 4032] from by decide)).trans e_z525.symm
      have q537 : s535 0 10 = z526 := (t_s535 0 10 (show 11 ∉ [3329, 3334, 3335, 3336, 3392, 3456, 3520, 3584, 3276, 3648, 3712, 3776, 3840, 3904, 3968, 3277, 4032] from by decide)).trans e_z526.symm
      have q538 : s535 46 3 = z527 := (t_s535 46 3 (show 452 ∉ [3329, 3334, 3335, 3336, 3392, 3456, 3520, 3584, 3276, 3648, 3712, 3776, 3840, 3904, 3968, 3277, 4032] from by decide)).trans e_z527.symm
      obtain ⟨z539, e_z539⟩ : ∃ z, z = s535 243 11 := ⟨_, rfl⟩
      have g_z539 : (0 : Int) ≤ s535 243 11 ∧ s535 243 11 ≤ 1 := hG_s535 243 11
      obtain ⟨z540, e_z540⟩ : ∃ z, z = s535 243 12 := ⟨_, rfl⟩
      have g_z540 : (-1) ≤ s535 243 12 ∧ s535 243 12 ≤ 9 := hG_s535 243 12
      show xe none 115 35 [(0, .ref 0), (1, vi a), (2, vi b), (3, vi d)] [] s535 0 0 _
      have VCj_k : VCj s535 := VCj.judge hG0 t_s535 (by decide) xp_z534.1
      have VCl_k : VCl s535 := VCl.look hG0 t_s535 (by decide) xp_z534.2.1 xp_z534.2.2.1 xp_z534.2.2.2
      refine x_A k115_35 (fun _ => rfl) ?_
      refine x_A k115_36 (fun _ => rfl) ?_
      refine x_A k115_37 (fun _ => rfl) ?_
      refine x_callV k115_38 (y := 132) (n := 2) (w0 := 0) (w1 := 2) (as := [vi a, vi b]) (rest := []) (by decide +kernel) (q := 0) (nq := 12) (kq := 3) ⟨by decide, rfl⟩ rfl rfl rfl rfl (xe_mono (E_X10_goingAlong_0 s535 hG_s535 a ⟨by omega, by omega⟩ b ⟨by omega, by omega⟩ (VL.cg xp_z534.2.1 (FL.ve f_s535 hG0 (by decide)).sy) (by omega)) ?_)
      rintro s542 v ⟨-, t_s542, z541, rfl, b_z541, xp_z541⟩
      rw [t_s542.nil]
      try rw [t_s542.nil] at xp_z541
      show xe none 115 41 [(0, .ref 0), (1, vi a), (2, vi b), (3, vi d)] [vj z541] s535 0 0 _
      have wm : ∀ k : Nat, k < 64 → (bt z541 k = true ↔ (k : Int) < s0 1 4 ∧ alC s0 b a (k : Int)) := fun k hk => by rw [xp_z541 k hk, (FL.ve f_s535 hG0 (by decide)).ag (f_s535 46 3 (show 452 ∉ [3329, 3334, 3335, 3336, 3392, 3456, 3520, 3584, 3276, 3648, 3712, 3776, 3840, 3904, 3968, 3277, 4032] from by decide)), show s535 1 4 = s0 1 4 from f_s535 1 4 (show 69 ∉ [3329, 3334, 3335, 3336, 3392, 3456, 3520, 3584, 3276, 3648, 3712, 3776, 3840, 3904, 3968, 3277, 4032] from by decide)]
      have g14_ : (1 : Int) ≤ s0 1 4 ∧ s0 1 4 ≤ 40 := hG0 1 4
      have g46_ : (0 : Int) ≤ s0 46 3 ∧ s0 46 3 ≤ 40 := hG0 46 3
      refine x_lstore k115_41 (ls' := [(4, vj z541), (0, .ref 0), (1, vi a), (2, vi b), (3, vi d)]) (by decide) rfl ?_
      refine x_A k115_43 (fun _ => rfl) ?_
      refine x_istore k115_44 (ls' := [(6, vi 0), (4, vj z541), (0, .ref 0), (1, vi a), (2, vi b), (3, vi d)]) (by decide) rfl ?_
      refine x_A k115_46 (fun _ => rfl) ?_
      refine x_callS k115_48 (y := 219) (n := 1) (w0 := 0) (w1 := 2) (as := [vj z541]) (rest := []) (by decide +kernel) rfl rfl rfl rfl (xe_mono (E_J13_bitCount_95d88 s535 hG_s535 z541 b_z541) ?_)
      rintro s544 v ⟨-, t_s544, z543, rfl, g_z543, xp_z543⟩
      rw [t_s544.nil]
      try rw [t_s544.nil] at xp_z543
      show xe none 115 51 [(6, vi 0), (4, vj z541), (0, .ref 0), (1, vi a), (2, vi b), (3, vi d)] [vi z543] s535 0 0 _
      have zb : z543 = ctp (fun k => alC s0 b a (k : Int)) (s0 1 4).toNat := by rw [xp_z543, ctp_cut (n := (s0 1 4).toNat) (by omega) (fun k k1 k2 w => by have := ((wm k k2).mp w).1; omega)]; exact ctp_cg _ (fun k hk => (wm k (by omega)).trans ⟨fun w => w.2, fun w => ⟨by omega, w⟩⟩)
      refine x_istore k115_51 (ls' := [(7, vi z543), (6, vi 0), (4, vj z541), (0, .ref 0), (1, vi a), (2, vi b), (3, vi d)]) (by decide) rfl ?_
      refine x_ls (l := [(0, .ref 0), (1, vi a), (2, vi b), (3, vi d), (4, vj z541), (6, vi 0), (7, vi z543)]) (show ([0, 1, 2, 3, 4, 6, 7] : List Nat).Nodup from by decide) ⟨rfl, rfl, rfl, rfl, rfl, rfl, rfl, trivial⟩ ?_
      exact L_W_X10_likely_0_53 s0 hJ0 hG0 a b_a b b_b d b_d pR  (((z543 - 0) + 1 : Int)).toNat s535 a b d z541 0 z543 z527 hG_s535 f_s535 ⟨by omega, by omega⟩ ⟨by omega, by omega⟩ ⟨by omega, by omega⟩ b_z541 ⟨by omega, by omega⟩ ⟨by omega, by omega⟩ ⟨by omega, by omega⟩ (by omega) (by omega) xp_z534.2.1 wm (lkW_0 (fun q _ => by have q9 := liN_c (s := s0) (e := b) (m := a) (n := s0 1 4) (p := q); omega)) (q538).symm VCj_k VCl_k  (by omega)
    · rw [e_z531]
      show xe none 115 20 [(0, .ref 0), (1, vi a), (2, vi b), (3, vi d)] [vi 0] s0 0 0 _
      refine x_if_ne k115_20 (t := 27) rfl ⟨by omega, by omega⟩ (fun c545 => by exfalso; omega) (fun c545 => ?_)
      refine x_sipush k115_23 (by decide +kernel) ?_
      exact x_iret k115_26 rfl ⟨hG0, f0, (-1002), rfl, ⟨by omega, by omega⟩, (by unfold LkS; exact Or.inr (Or.inl ⟨by omega, by omega, rfl⟩)), i0_VCj, i0_VCl⟩
  · rw [e_z528]
    show xe none 115 8 [(0, .ref 0), (1, vi a), (2, vi b), (3, vi d)] [vi 0] s0 0 0 _
    refine x_if_ne k115_8 (t := 15) rfl ⟨by omega, by omega⟩ (fun c546 => by exfalso; omega) (fun c546 => ?_)
    refine x_sipush k115_11 (by decide +kernel) ?_
    exact x_iret k115_14 rfl ⟨hG0, f0, (-1001), rfl, ⟨by omega, by omega⟩, (by unfold LkS; exact Or.inl ⟨by omega, rfl⟩), i0_VCj, i0_VCl⟩
