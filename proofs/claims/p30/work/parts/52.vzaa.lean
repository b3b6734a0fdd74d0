set_option maxHeartbeats 8000000 in
theorem L_W_X11_of_256_102 (s0 : xS) (hJ0 : J s0) (hG0 : GI s0) (a : Int) (b_a : (-2147483648) ≤ a ∧ a ≤ 2147483647) (b : Int) (b_b : (-2147483648) ≤ b ∧ b ≤ 2147483647) (d : Int) (b_d : (-2147483648) ≤ d ∧ d ≤ 2147483647) (e : Int) (b_e : (-2147483648) ≤ e ∧ e ≤ 2147483647) (pR : R1 s0) (pT : TR s0) (pG1 : G1 s0) (pG3 : G3 s0) (pS1 : S1 s0) (pS2 : S2 s0) (n_67 : Nat) (ih_67 : ∀ (s : xS) (x1 : Int) (x2 : Int) (x3 : Int) (x4 : Int) (x5 : Int) (x6 : Int) (x7 : Int) (hG : GI s) (f : FL [5312, 5376, 4123, 5440, 5504, 5568, 5632, 5696, 5760] s0 s) (b_x1 : 0 ≤ x1 ∧ x1 ≤ 39) (b_x2 : 0 ≤ x2 ∧ x2 ≤ 3) (b_x3 : 0 ≤ x3 ∧ x3 ≤ 9) (b_x4 : 0 ≤ x4 ∧ x4 ≤ 2) (b_x5 : 0 ≤ x5 ∧ x5 ≤ 6) (b_x6 : (-1) ≤ x6 ∧ x6 ≤ 5) (b_x7 : 0 ≤ x7 ∧ x7 ≤ 6) (r_6_7 : x6 ≤ x7 + (-1)) (r_5_7 : x5 ≤ x7 + 0) (w_0 : x1 = a ∧ x2 = b ∧ x3 = d ∧ x4 = e ∧ x5 ≤ x7 ∧ x7 ≤ s0 292 b.toNat ∧ s0 232 b.toNat = s0 292 b.toNat) (w_1 : ((0 ≤ a ∧ a < s0 256 6) ∧ 0 ≤ b ∧ b < s0 256 58) ∧ (0 ≤ d ∧ d ≤ s0 256 0) ∧ 0 ≤ e ∧ e ≤ 2) (w_2 : FdZ s s0 d) (w_3 : x5 = ctp (fun i : Nat => ofP s0 d a b (i : Int)) x7.toNat) (w_4 : ofF s0 d a b x7 x6) (hm : (6 - x7) < (n_67 : Int)), xe none 217 67 [(0, .ref 256), (1, vi x1), (2, vi x2), (3, vi x3), (4, vi x4), (5, vi x5), (6, vi x6), (7, vi x7)] [] s 0 0 (fun s' v => GI s' ∧ FL [5312, 5376, 4123, 5440, 5504, 5568, 5632, 5696, 5760] s0 s' ∧ ∃ z, v = some (vi z) ∧ ((-2147483648) ≤ z ∧ z ≤ 2147483647) ∧ (OfS s0 a b d e z))) : ∀ (n : Nat) (s : xS) (x1 : Int) (x2 : Int) (x3 : Int) (x4 : Int) (x5 : Int) (x6 : Int) (x7 : Int) (x8 : Int) (x9 : Int) (hG : GI s) (f : FL [5312, 5376, 4123, 5440, 5504, 5568, 5632, 5696, 5760] s0 s) (b_x1 : 0 ≤ x1 ∧ x1 ≤ 39) (b_x2 : 0 ≤ x2 ∧ x2 ≤ 3) (b_x3 : 0 ≤ x3 ∧ x3 ≤ 9) (b_x4 : 0 ≤ x4 ∧ x4 ≤ 2) (b_x5 : 0 ≤ x5 ∧ x5 ≤ 6) (b_x6 : (-1) ≤ x6 ∧ x6 ≤ 5) (b_x7 : 0 ≤ x7 ∧ x7 ≤ 5) (b_x8 : 0 ≤ x8 ∧ x8 ≤ 1) (b_x9 : 0 ≤ x9 ∧ x9 ≤ 3) (r_5_7 : x5 ≤ x7 + 0) (r_6_7 : x6 ≤ x7 + (-1)) (w_0 : x1 = a ∧ x2 = b ∧ x3 = d ∧ x4 = e ∧ x5 ≤ x7 ∧ x7 < s0 292 b.toNat ∧ x7 ≤ 4 ∧ x9 ≤ s0 293 (5 * b + x7).toNat ∧ s0 232 b.toNat = s0 292 b.toNat) (w_1 : ((0 ≤ a ∧ a < s0 256 6) ∧ 0 ≤ b ∧ b < s0 256 58) ∧ (0 ≤ d ∧ d ≤ s0 256 0) ∧ 0 ≤ e ∧ e ≤ 2) (w_2 : FdZ s s0 d) (w_3 : x5 = ctp (fun i : Nat => ofP s0 d a b (i : Int)) x7.toNat) (w_4 : ofF s0 d a b x7 x6) (w_5 : ofW s0 d a b x7 x9 x8) (k_67 : (6 - x7) < (n_67 : Int) + 1) (hm : (3 - x9) < (n : Int)), xe none 217 102 [(0, .ref 256), (1, vi x1), (2, vi x2), (3, vi x3), (4, vi x4), (5, vi x5), (6, vi x6), (7, vi x7), (8, vi x8), (9, vi x9)] [] s 0 0 (fun s' v => GI s' ∧ FL [5312, 5376, 4123, 5440, 5504, 5568, 5632, 5696, 5760] s0 s' ∧ ∃ z, v = some (vi z) ∧ ((-2147483648) ≤ z ∧ z ≤ 2147483647) ∧ (OfS s0 a b d e z)) := by
  intro n
  induction n with
  | zero => intro s x1 x2 x3 x4 x5 x6 x7 x8 x9 hG f b_x1 b_x2 b_x3 b_x4 b_x5 b_x6 b_x7 b_x8 b_x9 r_5_7 r_6_7 w_0 w_1 w_2 w_3 w_4 w_5 k_67 hm; exfalso; omega
  | succ n ih =>
    intro s x1 x2 x3 x4 x5 x6 x7 x8 x9 hG f b_x1 b_x2 b_x3 b_x4 b_x5 b_x6 b_x7 b_x8 b_x9 r_5_7 r_6_7 w_0 w_1 w_2 w_3 w_4 w_5 k_67 hm
    refine x_A k217_102 (fun _ => rfl) ?_
    refine x_A k217_104 (fun _ => rfl) ?_
    refine x_getR k217_105 (f := 60) rfl (q := 256) (n := 62) (kd := 15) ⟨by decide, rfl⟩ (q2 := 293) (by decide) rfl ?_
    refine x_A k217_108 (fun _ => rfl) ?_
    refine x_A k217_109 (fun _ => rfl) ?_
    refine x_imul k217_110 ?_
    refine x_top (fun z434 e_z434 => ?_)
    refine x_A k217_111 (fun _ => rfl) ?_
    refine x_iadd k217_113 ?_
    refine x_top (fun z435 e_z435 => ?_)
    refine x_iald k217_114 (q := 293) (n := 20) ⟨by decide, rfl⟩ (by decide) ⟨by omega, by omega⟩ ?_
    refine x_top (fun z436 e_z436 => ?_)
    have g_z436 : (0 : Int) ≤ s 293 z435.toNat ∧ s 293 z435.toNat ≤ 3 := hG 293 z435.toNat
    have m293_ : s0 293 (5 * b + x7).toNat = z436 := by rw [← f 293 (5 * b + x7).toNat (show 6464 ∉ [5312, 5376, 4123, 5440, 5504, 5568, 5632, 5696, 5760] from by decide), ← show z435.toNat = (5 * b + x7).toNat by omega]; exact e_z436.symm
    refine x_ic_ge k217_115 (t := 160) rfl ⟨by omega, by omega⟩ ⟨by omega, by omega⟩ (fun c437 => ?_) (fun c437 => ?_)
    · skip
      have op_ := w_5.fin pS2 hG0 ⟨by omega, by omega⟩ ⟨by omega, by omega⟩ (by omega) (by omega)
      refine x_A k217_160 (fun _ => rfl) ?_
      refine x_A k217_162 (fun _ => rfl) ?_
      refine x_if_eq k217_164 (t := 171) rfl ⟨by omega, by omega⟩ (fun c438 => ?_) (fun c438 => ?_)
      · skip
        refine x_A k217_171 (fun _ => rfl) ?_
        refine x_iadd k217_172 ?_
        refine x_top (fun z439 e_z439 => ?_)
        refine x_istore k217_173 (ls' := [(5, vi z439), (0, .ref 256), (1, vi x1), (2, vi x2), (3, vi x3), (4, vi x4), (6, vi x6), (7, vi x7), (8, vi x8), (9, vi x9)]) (by decide) rfl ?_
        refine x_A k217_175 (fun _ => rfl) ?_
        refine x_if_eq k217_177 (t := 190) rfl ⟨by omega, by omega⟩ (fun c440 => ?_) (fun c440 => by exfalso; omega)
        refine x_A k217_190 (fun _ => rfl) ?_
        refine x_istore k217_192 (ls' := [(6, vi x6), (5, vi z439), (0, .ref 256), (1, vi x1), (2, vi x2), (3, vi x3), (4, vi x4), (7, vi x7), (8, vi x8), (9, vi x9)]) (by decide) rfl ?_
        refine x_iinc k217_194 (ls' := [(7, vi (x7 + 1)), (6, vi x6), (5, vi z439), (0, .ref 256), (1, vi x1), (2, vi x2), (3, vi x3), (4, vi x4), (8, vi x8), (9, vi x9)]) rfl (by decide) rfl ?_
        refine x_goto k217_197 (t := 67) rfl ?_
        refine x_ls (l := [(0, .ref 256), (1, vi x1), (2, vi x2), (3, vi x3), (4, vi x4), (5, vi z439), (6, vi x6), (7, vi (x7 + 1))]) (show ([0, 1, 2, 3, 4, 5, 6, 7] : List Nat).Nodup from by decide) ⟨rfl, rfl, rfl, rfl, rfl, rfl, rfl, rfl, trivial⟩ ?_
        exact ih_67 s x1 x2 x3 x4 z439 x6 (x7 + 1) hG f ⟨by omega, by omega⟩ ⟨by omega, by omega⟩ ⟨by omega, by omega⟩ ⟨by omega, by omega⟩ ⟨by omega, by omega⟩ ⟨by omega, by omega⟩ ⟨by omega, by omega⟩ (by omega) (by omega) (by omega) (by omega) w_2 (by have cs := ctp_s (fun i : Nat => ofP s0 d a b (i : Int)) (k := x7) (by omega); have q2 := cs.2 (by show ¬ ofP s0 d a b ((x7.toNat : Nat) : Int); rw [show ((x7.toNat : Nat) : Int) = x7 by omega]; exact (op_.resolve_left (fun q => by omega)).2); omega) (w_4.no (op_.resolve_left (fun q => by omega)).2) (by omega)
      · skip
        refine x_A k217_167 (fun _ => rfl) ?_
        refine x_goto k217_168 (t := 172) rfl ?_
        refine x_iadd k217_172 ?_
        refine x_top (fun z441 e_z441 => ?_)
        refine x_istore k217_173 (ls' := [(5, vi z441), (0, .ref 256), (1, vi x1), (2, vi x2), (3, vi x3), (4, vi x4), (6, vi x6), (7, vi x7), (8, vi x8), (9, vi x9)]) (by decide) rfl ?_
        refine x_A k217_175 (fun _ => rfl) ?_
        refine x_if_eq k217_177 (t := 190) rfl ⟨by omega, by omega⟩ (fun c442 => by exfalso; omega) (fun c442 => ?_)
        refine x_A k217_180 (fun _ => rfl) ?_
        refine x_if_ge k217_182 (t := 190) rfl ⟨by omega, by omega⟩ (fun c443 => ?_) (fun c443 => ?_)
        · skip
          refine x_A k217_190 (fun _ => rfl) ?_
          refine x_istore k217_192 (ls' := [(6, vi x6), (5, vi z441), (0, .ref 256), (1, vi x1), (2, vi x2), (3, vi x3), (4, vi x4), (7, vi x7), (8, vi x8), (9, vi x9)]) (by decide) rfl ?_
          refine x_iinc k217_194 (ls' := [(7, vi (x7 + 1)), (6, vi x6), (5, vi z441), (0, .ref 256), (1, vi x1), (2, vi x2), (3, vi x3), (4, vi x4), (8, vi x8), (9, vi x9)]) rfl (by decide) rfl ?_
          refine x_goto k217_197 (t := 67) rfl ?_
          refine x_ls (l := [(0, .ref 256), (1, vi x1), (2, vi x2), (3, vi x3), (4, vi x4), (5, vi z441), (6, vi x6), (7, vi (x7 + 1))]) (show ([0, 1, 2, 3, 4, 5, 6, 7] : List Nat).Nodup from by decide) ⟨rfl, rfl, rfl, rfl, rfl, rfl, rfl, rfl, trivial⟩ ?_
          exact ih_67 s x1 x2 x3 x4 z441 x6 (x7 + 1) hG f ⟨by omega, by omega⟩ ⟨by omega, by omega⟩ ⟨by omega, by omega⟩ ⟨by omega, by omega⟩ ⟨by omega, by omega⟩ ⟨by omega, by omega⟩ ⟨by omega, by omega⟩ (by omega) (by omega) (by omega) (by omega) w_2 (by have cs := ctp_s (fun i : Nat => ofP s0 d a b (i : Int)) (k := x7) (by omega); have q2 := cs.1 (by show ofP s0 d a b ((x7.toNat : Nat) : Int); rw [show ((x7.toNat : Nat) : Int) = x7 by omega]; exact (op_.resolve_right (fun q => by omega)).2); omega) (w_4.keep (by omega)) (by omega)
        · skip
          refine x_A k217_185 (fun _ => rfl) ?_
          refine x_goto k217_187 (t := 192) rfl ?_
          refine x_istore k217_192 (ls' := [(6, vi x7), (5, vi z441), (0, .ref 256), (1, vi x1), (2, vi x2), (3, vi x3), (4, vi x4), (7, vi x7), (8, vi x8), (9, vi x9)]) (by decide) rfl ?_
          refine x_iinc k217_194 (ls' := [(7, vi (x7 + 1)), (6, vi x7), (5, vi z441), (0, .ref 256), (1, vi x1), (2, vi x2), (3, vi x3), (4, vi x4), (8, vi x8), (9, vi x9)]) rfl (by decide) rfl ?_
          refine x_goto k217_197 (t := 67) rfl ?_
          refine x_ls (l := [(0, .ref 256), (1, vi x1), (2, vi x2), (3, vi x3), (4, vi x4), (5, vi z441), (6, vi x7), (7, vi (x7 + 1))]) (show ([0, 1, 2, 3, 4, 5, 6, 7] : List Nat).Nodup from by decide) ⟨rfl, rfl, rfl, rfl, rfl, rfl, rfl, rfl, trivial⟩ ?_
          exact ih_67 s x1 x2 x3 x4 z441 x7 (x7 + 1) hG f ⟨by omega, by omega⟩ ⟨by omega, by omega⟩ ⟨by omega, by omega⟩ ⟨by omega, by omega⟩ ⟨by omega, by omega⟩ ⟨by omega, by omega⟩ ⟨by omega, by omega⟩ (by omega) (by omega) (by omega) (by omega) w_2 (by have cs := ctp_s (fun i : Nat => ofP s0 d a b (i : Int)) (k := x7) (by omega); have q2 := cs.1 (by show ofP s0 d a b ((x7.toNat : Nat) : Int); rw [show ((x7.toNat : Nat) : Int) = x7 by omega]; exact (op_.resolve_right (fun q => by omega)).2); omega) (w_4.yes (by omega) (by omega) (op_.resolve_right (fun q => by omega)).2) (by omega)
    · skip
      refine x_A k217_118 (fun _ => rfl) ?_
      refine x_if_eq k217_120 (t := 151) rfl ⟨by omega, by omega⟩ (fun c444 => ?_) (fun c444 => ?_)
      · skip
        refine x_A k217_151 (fun _ => rfl) ?_
        refine x_istore k217_152 (ls' := [(8, vi 0), (0, .ref 256), (1, vi x1), (2, vi x2), (3, vi x3), (4, vi x4), (5, vi x5), (6, vi x6), (7, vi x7), (9, vi x9)]) (by decide) rfl ?_
        refine x_iinc k217_154 (ls' := [(9, vi (x9 + 1)), (8, vi 0), (0, .ref 256), (1, vi x1), (2, vi x2), (3, vi x3), (4, vi x4), (5, vi x5), (6, vi x6), (7, vi x7)]) rfl (by decide) rfl ?_
        refine x_goto k217_157 (t := 102) rfl ?_
        refine x_ls (l := [(0, .ref 256), (1, vi x1), (2, vi x2), (3, vi x3), (4, vi x4), (5, vi x5), (6, vi x6), (7, vi x7), (8, vi 0), (9, vi (x9 + 1))]) (show ([0, 1, 2, 3, 4, 5, 6, 7, 8, 9] : List Nat).Nodup from by decide) ⟨rfl, rfl, rfl, rfl, rfl, rfl, rfl, rfl, rfl, rfl, trivial⟩ ?_
        exact ih s x1 x2 x3 x4 x5 x6 x7 0 (x9 + 1) hG f ⟨by omega, by omega⟩ ⟨by omega, by omega⟩ ⟨by omega, by omega⟩ ⟨by omega, by omega⟩ ⟨by omega, by omega⟩ ⟨by omega, by omega⟩ ⟨by omega, by omega⟩ ⟨by omega, by omega⟩ ⟨by omega, by omega⟩ (by omega) (by omega) (by omega) (by omega) w_2 w_3 w_4 (w_5.z (by omega)) (by omega) (by omega)
      · skip
        refine x_A k217_123 (fun _ => rfl) ?_
        refine x_A k217_124 (fun _ => rfl) ?_
        refine x_A k217_125 (fun _ => rfl) ?_
        refine x_getR k217_126 (f := 61) rfl (q := 256) (n := 62) (kd := 15) ⟨by decide, rfl⟩ (q2 := 294) (by decide) rfl ?_
        refine x_A k217_129 (fun _ => rfl) ?_
        refine x_A k217_130 (fun _ => rfl) ?_
        refine x_A k217_131 (fun _ => rfl) ?_
        refine x_imul k217_132 ?_
        refine x_top (fun z445 e_z445 => ?_)
        refine x_A k217_133 (fun _ => rfl) ?_
        refine x_iadd k217_135 ?_
        refine x_top (fun z446 e_z446 => ?_)
        refine x_imul k217_136 ?_
        refine x_top (fun z447 e_z447 => ?_)
        refine x_A k217_137 (fun _ => rfl) ?_
        refine x_iadd k217_139 ?_
        refine x_top (fun z448 e_z448 => ?_)
        refine x_iald k217_140 (q := 294) (n := 60) ⟨by decide, rfl⟩ (by decide) ⟨by omega, by omega⟩ ?_
        refine x_top (fun z449 e_z449 => ?_)
        have g_z449 : (0 : Int) ≤ s 294 z448.toNat ∧ s 294 z448.toNat ≤ 39 := hG 294 z448.toNat
        refine x_callV k217_141 (y := 169) (n := 2) (w0 := 0) (w1 := 2) (as := [vi x1, vi z449]) (rest := []) (by decide +kernel) (q := 256) (nq := 62) (kq := 15) ⟨by decide, rfl⟩ rfl rfl rfl rfl (xe_mono (E_X11_shows_256 s hG x1 ⟨by omega, by omega⟩ z449 ⟨by omega, by omega⟩) ?_)
        rintro s451 v ⟨-, t_s451, z450, rfl, g_z450, xp_z450⟩
        rw [t_s451.nil]
        try rw [t_s451.nil] at xp_z450
        show xe none 217 144 [(0, .ref 256), (1, vi x1), (2, vi x2), (3, vi x3), (4, vi x4), (5, vi x5), (6, vi x6), (7, vi x7), (8, vi x8), (9, vi x9)] [vi z450] s 0 0 _
        have sh_ := xp_z450
        have m294_ : s0 294 (3 * (5 * b + x7) + x9).toNat = z449 := by rw [← f 294 (3 * (5 * b + x7) + x9).toNat (show 6528 ∉ [5312, 5376, 4123, 5440, 5504, 5568, 5632, 5696, 5760] from by decide), ← show z448.toNat = (3 * (5 * b + x7) + x9).toNat by omega]; exact e_z449.symm
        rw [show x1 = a by omega, FdZ.sh w_2 ⟨by omega, by omega⟩ ⟨by omega, by omega⟩] at sh_
        refine x_if_eq k217_144 (t := 151) rfl ⟨by omega, by omega⟩ (fun c452 => ?_) (fun c452 => ?_)
        · skip
          refine x_A k217_151 (fun _ => rfl) ?_
          refine x_istore k217_152 (ls' := [(8, vi 0), (0, .ref 256), (1, vi x1), (2, vi x2), (3, vi x3), (4, vi x4), (5, vi x5), (6, vi x6), (7, vi x7), (9, vi x9)]) (by decide) rfl ?_
          refine x_iinc k217_154 (ls' := [(9, vi (x9 + 1)), (8, vi 0), (0, .ref 256), (1, vi x1), (2, vi x2), (3, vi x3), (4, vi x4), (5, vi x5), (6, vi x6), (7, vi x7)]) rfl (by decide) rfl ?_
          refine x_goto k217_157 (t := 102) rfl ?_
          refine x_ls (l := [(0, .ref 256), (1, vi x1), (2, vi x2), (3, vi x3), (4, vi x4), (5, vi x5), (6, vi x6), (7, vi x7), (8, vi 0), (9, vi (x9 + 1))]) (show ([0, 1, 2, 3, 4, 5, 6, 7, 8, 9] : List Nat).Nodup from by decide) ⟨rfl, rfl, rfl, rfl, rfl, rfl, rfl, rfl, rfl, rfl, trivial⟩ ?_
          exact ih s x1 x2 x3 x4 x5 x6 x7 0 (x9 + 1) hG f ⟨by omega, by omega⟩ ⟨by omega, by omega⟩ ⟨by omega, by omega⟩ ⟨by omega, by omega⟩ ⟨by omega, by omega⟩ ⟨by omega, by omega⟩ ⟨by omega, by omega⟩ ⟨by omega, by omega⟩ ⟨by omega, by omega⟩ (by omega) (by omega) (by omega) (by omega) w_2 w_3 w_4 (ofW.n (by omega) m294_ (sh_.resolve_left (fun q => by omega)).2) (by omega) (by omega)
        · skip
          refine x_A k217_147 (fun _ => rfl) ?_
          refine x_goto k217_148 (t := 152) rfl ?_
          refine x_istore k217_152 (ls' := [(8, vi 1), (0, .ref 256), (1, vi x1), (2, vi x2), (3, vi x3), (4, vi x4), (5, vi x5), (6, vi x6), (7, vi x7), (9, vi x9)]) (by decide) rfl ?_
          refine x_iinc k217_154 (ls' := [(9, vi (x9 + 1)), (8, vi 1), (0, .ref 256), (1, vi x1), (2, vi x2), (3, vi x3), (4, vi x4), (5, vi x5), (6, vi x6), (7, vi x7)]) rfl (by decide) rfl ?_
          refine x_goto k217_157 (t := 102) rfl ?_
          refine x_ls (l := [(0, .ref 256), (1, vi x1), (2, vi x2), (3, vi x3), (4, vi x4), (5, vi x5), (6, vi x6), (7, vi x7), (8, vi 1), (9, vi (x9 + 1))]) (show ([0, 1, 2, 3, 4, 5, 6, 7, 8, 9] : List Nat).Nodup from by decide) ⟨rfl, rfl, rfl, rfl, rfl, rfl, rfl, rfl, rfl, rfl, trivial⟩ ?_
          exact ih s x1 x2 x3 x4 x5 x6 x7 1 (x9 + 1) hG f ⟨by omega, by omega⟩ ⟨by omega, by omega⟩ ⟨by omega, by omega⟩ ⟨by omega, by omega⟩ ⟨by omega, by omega⟩ ⟨by omega, by omega⟩ ⟨by omega, by omega⟩ ⟨by omega, by omega⟩ ⟨by omega, by omega⟩ (by omega) (by omega) (by omega) (by omega) w_2 w_3 w_4 (w_5.y (by omega) m294_ (sh_.resolve_right (fun q => by omega)).2) (by omega) (by omega)
set_option maxHeartbeats 8000000 in
theorem L_W_X11_of_256_67 (s0 : xS) (hJ0 : J s0) (hG0 : GI s0) (a : Int) (b_a : (-2147483648) ≤ a ∧ a ≤ 2147483647) (b : Int) (b_b : (-2147483648) ≤ b ∧ b ≤ 2147483647) (d : Int) (b_d : (-2147483648) ≤ d ∧ d ≤ 2147483647) (e : Int) (b_e : (-2147483648) ≤ e ∧ e ≤ 2147483647) (pR : R1 s0) (pT : TR s0) (pG1 : G1 s0) (pG3 : G3 s0) (pS1 : S1 s0) (pS2 : S2 s0)  : ∀ (n : Nat) (s : xS) (x1 : Int) (x2 : Int) (x3 : Int) (x4 : Int) (x5 : Int) (x6 : Int) (x7 : Int) (hG : GI s) (f : FL [5312, 5376, 4123, 5440, 5504, 5568, 5632, 5696, 5760] s0 s) (b_x1 : 0 ≤ x1 ∧ x1 ≤ 39) (b_x2 : 0 ≤ x2 ∧ x2 ≤ 3) (b_x3 : 0 ≤ x3 ∧ x3 ≤ 9) (b_x4 : 0 ≤ x4 ∧ x4 ≤ 2) (b_x5 : 0 ≤ x5 ∧ x5 ≤ 6) (b_x6 : (-1) ≤ x6 ∧ x6 ≤ 5) (b_x7 : 0 ≤ x7 ∧ x7 ≤ 6) (r_6_7 : x6 ≤ x7 + (-1)) (r_5_7 : x5 ≤ x7 + 0) (w_0 : x1 = a ∧ x2 = b ∧ x3 = d ∧ x4 = e ∧ x5 ≤ x7 ∧ x7 ≤ s0 292 b.toNat ∧ s0 232 b.toNat = s0 292 b.toNat) (w_1 : ((0 ≤ a ∧ a < s0 256 6) ∧ 0 ≤ b ∧ b < s0 256 58) ∧ (0 ≤ d ∧ d ≤ s0 256 0) ∧ 0 ≤ e ∧ e ≤ 2) (w_2 : FdZ s s0 d) (w_3 : x5 = ctp (fun i : Nat => ofP s0 d a b (i : Int)) x7.toNat) (w_4 : ofF s0 d a b x7 x6)  (hm : (6 - x7) < (n : Int)), xe none 217 67 [(0, .ref 256), (1, vi x1), (2, vi x2), (3, vi x3), (4, vi x4), (5, vi x5), (6, vi x6), (7, vi x7)] [] s 0 0 (fun s' v => GI s' ∧ FL [5312, 5376, 4123, 5440, 5504, 5568, 5632, 5696, 5760] s0 s' ∧ ∃ z, v = some (vi z) ∧ ((-2147483648) ≤ z ∧ z ≤ 2147483647) ∧ (OfS s0 a b d e z)) := by
  intro n
  induction n with
  | zero => intro s x1 x2 x3 x4 x5 x6 x7 hG f b_x1 b_x2 b_x3 b_x4 b_x5 b_x6 b_x7 r_6_7 r_5_7 w_0 w_1 w_2 w_3 w_4  hm; exfalso; omega
  | succ n ih =>
    intro s x1 x2 x3 x4 x5 x6 x7 hG f b_x1 b_x2 b_x3 b_x4 b_x5 b_x6 b_x7 r_6_7 r_5_7 w_0 w_1 w_2 w_3 w_4  hm
    refine x_A k217_67 (fun _ => rfl) ?_
    refine x_A k217_69 (fun _ => rfl) ?_
    refine x_getR k217_70 (f := 59) rfl (q := 256) (n := 62) (kd := 15) ⟨by decide, rfl⟩ (q2 := 292) (by decide) rfl ?_
    refine x_A k217_73 (fun _ => rfl) ?_
    refine x_iald k217_74 (q := 292) (n := 4) ⟨by decide, rfl⟩ (by decide) ⟨by omega, by omega⟩ ?_
    refine x_top (fun z453 e_z453 => ?_)
    have g_z453 : (0 : Int) ≤ s 292 x2.toNat ∧ s 292 x2.toNat ≤ 5 := hG 292 x2.toNat
    have m292_ : s0 292 b.toNat = z453 := by rw [← f 292 b.toNat (show 6400 ∉ [5312, 5376, 4123, 5440, 5504, 5568, 5632, 5696, 5760] from by decide), ← show x2 = b by omega]; exact e_z453.symm
    refine x_ic_ge k217_75 (t := 200) rfl ⟨by omega, by omega⟩ ⟨by omega, by omega⟩ (fun c454 => ?_) (fun c454 => ?_)
    · skip
      refine x_A k217_200 (fun _ => rfl) ?_
      refine x_if_ne k217_202 (t := 210) rfl ⟨by omega, by omega⟩ (fun c455 => ?_) (fun c455 => ?_)
      · skip
        refine x_A k217_210 (fun _ => rfl) ?_
        refine x_A k217_212 (fun _ => rfl) ?_
        refine x_ic_ne k217_213 (t := 221) rfl ⟨by omega, by omega⟩ ⟨by omega, by omega⟩ (fun c456 => ?_) (fun c456 => ?_)
        · skip
          refine x_A k217_221 (fun _ => rfl) ?_
          refine x_A k217_223 (fun _ => rfl) ?_
          refine x_ic_ne k217_224 (t := 231) rfl ⟨by omega, by omega⟩ ⟨by omega, by omega⟩ (fun c457 => ?_) (fun c457 => ?_)
          · skip
            refine x_A k217_231 (fun _ => rfl) ?_
            exact x_iret k217_232 rfl ⟨hG, f, 0, rfl, ⟨by omega, by omega⟩, (by have q0 := pT.1.1; have q2 := pG3.1; have q3 := pS1.1; have m232_ : s0 232 b.toNat = s0 292 b.toNat := (pS1.2 b (by omega) (by omega)).2.1 (by omega); have m7 : x7 = s0 232 b.toNat := (by omega); have cn : x5 = ofN s0 d a b (s0 232 b.toNat).toNat := (by unfold ofN; rw [show (s0 232 b.toNat).toNat = x7.toNat by omega]; exact w_3); exact Or.inr (Or.inr ⟨by omega, by omega, (fun q => by exfalso; omega), (fun q => by exfalso; omega), (fun _ => by rw [← cn]; show 0 = _; exact pIf_b (by omega))⟩))⟩
          · skip
            refine x_A k217_227 (fun _ => rfl) ?_
            refine x_goto k217_228 (t := 232) rfl ?_
            exact x_iret k217_232 rfl ⟨hG, f, 1, rfl, ⟨by omega, by omega⟩, (by have q0 := pT.1.1; have q2 := pG3.1; have q3 := pS1.1; have m232_ : s0 232 b.toNat = s0 292 b.toNat := (pS1.2 b (by omega) (by omega)).2.1 (by omega); have m7 : x7 = s0 232 b.toNat := (by omega); have cn : x5 = ofN s0 d a b (s0 232 b.toNat).toNat := (by unfold ofN; rw [show (s0 232 b.toNat).toNat = x7.toNat by omega]; exact w_3); exact Or.inr (Or.inr ⟨by omega, by omega, (fun q => by exfalso; omega), (fun q => by exfalso; omega), (fun _ => by rw [← cn]; show 1 = _; exact pIf_b (by omega))⟩))⟩
        · skip
          refine x_A k217_216 (fun _ => rfl) ?_
          refine x_goto k217_218 (t := 232) rfl ?_
          exact x_iret k217_232 rfl ⟨hG, f, x6, rfl, ⟨by omega, by omega⟩, (by have q0 := pT.1.1; have q2 := pG3.1; have q3 := pS1.1; have m232_ : s0 232 b.toNat = s0 292 b.toNat := (pS1.2 b (by omega) (by omega)).2.1 (by omega); have m7 : x7 = s0 232 b.toNat := (by omega); have cn : x5 = ofN s0 d a b (s0 232 b.toNat).toNat := (by unfold ofN; rw [show (s0 232 b.toNat).toNat = x7.toNat by omega]; exact w_3); exact Or.inr (Or.inr ⟨by omega, by omega, (fun q => by exfalso; omega), (fun _ => by rw [← m7]; exact w_4), (fun q => by exfalso; omega)⟩))⟩
      · skip
        refine x_A k217_205 (fun _ => rfl) ?_
        refine x_goto k217_207 (t := 232) rfl ?_
        exact x_iret k217_232 rfl ⟨hG, f, x5, rfl, ⟨by omega, by omega⟩, (by have q0 := pT.1.1; have q2 := pG3.1; have q3 := pS1.1; have m232_ : s0 232 b.toNat = s0 292 b.toNat := (pS1.2 b (by omega) (by omega)).2.1 (by omega); have m7 : x7 = s0 232 b.toNat := (by omega); have cn : x5 = ofN s0 d a b (s0 232 b.toNat).toNat := (by unfold ofN; rw [show (s0 232 b.toNat).toNat = x7.toNat by omega]; exact w_3); exact Or.inr (Or.inr ⟨by omega, by omega, (fun _ => cn), (fun q => by exfalso; omega), (fun q => by exfalso; omega)⟩))⟩
    · skip
      refine x_A k217_78 (fun _ => rfl) ?_
      refine x_getR k217_79 (f := 60) rfl (q := 256) (n := 62) (kd := 15) ⟨by decide, rfl⟩ (q2 := 293) (by decide) rfl ?_
      refine x_A k217_82 (fun _ => rfl) ?_
      refine x_A k217_83 (fun _ => rfl) ?_
      refine x_imul k217_84 ?_
      refine x_top (fun z458 e_z458 => ?_)
      refine x_A k217_85 (fun _ => rfl) ?_
      refine x_iadd k217_87 ?_
      refine x_top (fun z459 e_z459 => ?_)
      refine x_iald k217_88 (q := 293) (n := 20) ⟨by decide, rfl⟩ (by decide) ⟨by omega, by omega⟩ ?_
      refine x_top (fun z460 e_z460 => ?_)
      have g_z460 : (0 : Int) ≤ s 293 z459.toNat ∧ s 293 z459.toNat ≤ 3 := hG 293 z459.toNat
      have m293_ : s0 293 (5 * b + x7).toNat = z460 := by rw [← f 293 (5 * b + x7).toNat (show 6464 ∉ [5312, 5376, 4123, 5440, 5504, 5568, 5632, 5696, 5760] from by decide), ← show z459.toNat = (5 * b + x7).toNat by omega]; exact e_z460.symm
      have l293_ : 1 ≤ s0 293 (5 * b + x7).toNat := ((pS2 b x7 (by omega) (by omega) (by omega) (by omega)).2 (by omega)).1
      refine x_if_le k217_89 (t := 96) rfl ⟨by omega, by omega⟩ (fun c461 => ?_) (fun c461 => ?_)
      · skip
        refine x_A k217_96 (fun _ => rfl) ?_
        refine x_istore k217_97 (ls' := [(8, vi 0), (0, .ref 256), (1, vi x1), (2, vi x2), (3, vi x3), (4, vi x4), (5, vi x5), (6, vi x6), (7, vi x7)]) (by decide) rfl ?_
        refine x_A k217_99 (fun _ => rfl) ?_
        refine x_istore k217_100 (ls' := [(9, vi 0), (8, vi 0), (0, .ref 256), (1, vi x1), (2, vi x2), (3, vi x3), (4, vi x4), (5, vi x5), (6, vi x6), (7, vi x7)]) (by decide) rfl ?_
        refine x_ls (l := [(0, .ref 256), (1, vi x1), (2, vi x2), (3, vi x3), (4, vi x4), (5, vi x5), (6, vi x6), (7, vi x7), (8, vi 0), (9, vi 0)]) (show ([0, 1, 2, 3, 4, 5, 6, 7, 8, 9] : List Nat).Nodup from by decide) ⟨rfl, rfl, rfl, rfl, rfl, rfl, rfl, rfl, rfl, rfl, trivial⟩ ?_
        exact L_W_X11_of_256_102 s0 hJ0 hG0 a b_a b b_b d b_d e b_e pR pT pG1 pG3 pS1 pS2 n (fun s x1 x2 x3 x4 x5 x6 x7 hG f b_x1 b_x2 b_x3 b_x4 b_x5 b_x6 b_x7 r_6_7 r_5_7 w_0 w_1 w_2 w_3 w_4 hm => ih s x1 x2 x3 x4 x5 x6 x7 hG f b_x1 b_x2 b_x3 b_x4 b_x5 b_x6 b_x7 r_6_7 r_5_7 w_0 w_1 w_2 w_3 w_4  hm) (((3 - 0) + 1 : Int)).toNat s x1 x2 x3 x4 x5 x6 x7 0 0 hG f ⟨by omega, by omega⟩ ⟨by omega, by omega⟩ ⟨by omega, by omega⟩ ⟨by omega, by omega⟩ ⟨by omega, by omega⟩ ⟨by omega, by omega⟩ ⟨by omega, by omega⟩ ⟨by omega, by omega⟩ ⟨by omega, by omega⟩ (by omega) (by omega) (by omega) (by omega) w_2 w_3 w_4 (by exfalso; omega) (by omega) (by omega)
      · skip
        refine x_A k217_92 (fun _ => rfl) ?_
        refine x_goto k217_93 (t := 97) rfl ?_
        refine x_istore k217_97 (ls' := [(8, vi 1), (0, .ref 256), (1, vi x1), (2, vi x2), (3, vi x3), (4, vi x4), (5, vi x5), (6, vi x6), (7, vi x7)]) (by decide) rfl ?_
        refine x_A k217_99 (fun _ => rfl) ?_
        refine x_istore k217_100 (ls' := [(9, vi 0), (8, vi 1), (0, .ref 256), (1, vi x1), (2, vi x2), (3, vi x3), (4, vi x4), (5, vi x5), (6, vi x6), (7, vi x7)]) (by decide) rfl ?_
        refine x_ls (l := [(0, .ref 256), (1, vi x1), (2, vi x2), (3, vi x3), (4, vi x4), (5, vi x5), (6, vi x6), (7, vi x7), (8, vi 1), (9, vi 0)]) (show ([0, 1, 2, 3, 4, 5, 6, 7, 8, 9] : List Nat).Nodup from by decide) ⟨rfl, rfl, rfl, rfl, rfl, rfl, rfl, rfl, rfl, rfl, trivial⟩ ?_
        exact L_W_X11_of_256_102 s0 hJ0 hG0 a b_a b b_b d b_d e b_e pR pT pG1 pG3 pS1 pS2 n (fun s x1 x2 x3 x4 x5 x6 x7 hG f b_x1 b_x2 b_x3 b_x4 b_x5 b_x6 b_x7 r_6_7 r_5_7 w_0 w_1 w_2 w_3 w_4 hm => ih s x1 x2 x3 x4 x5 x6 x7 hG f b_x1 b_x2 b_x3 b_x4 b_x5 b_x6 b_x7 r_6_7 r_5_7 w_0 w_1 w_2 w_3 w_4  hm) (((3 - 0) + 1 : Int)).toNat s x1 x2 x3 x4 x5 x6 x7 1 0 hG f ⟨by omega, by omega⟩ ⟨by omega, by omega⟩ ⟨by omega, by omega⟩ ⟨by omega, by omega⟩ ⟨by omega, by omega⟩ ⟨by omega, by omega⟩ ⟨by omega, by omega⟩ ⟨by omega, by omega⟩ ⟨by omega, by omega⟩ (by omega) (by omega) (by omega) (by omega) w_2 w_3 w_4 ofW_0 (by omega) (by omega)
set_option maxHeartbeats 8000000 in
theorem W_X11_of_256 (s0 : xS) (hG0 : GI s0) (hJ0 : J s0) (a : Int) (b_a : (-2147483648) ≤ a ∧ a ≤ 2147483647) (b : Int) (b_b : (-2147483648) ≤ b ∧ b ≤ 2147483647) (d : Int) (b_d : (-2147483648) ≤ d ∧ d ≤ 2147483647) (e : Int) (b_e : (-2147483648) ≤ e ∧ e ≤ 2147483647) (p_256_6 : 0 ≤ s0 256 6 ∧ s0 256 6 ≤ 40) (p_256_58 : 0 ≤ s0 256 58 ∧ s0 256 58 ≤ 4) (p_256_0 : 0 ≤ s0 256 0 ∧ s0 256 0 ≤ 9) (pR : R1 s0) (pT : TR s0) (pG1 : G1 s0) (pG3 : G3 s0) (pS1 : S1 s0) (pS2 : S2 s0) : xe none 217 0 (lv_args 0 [.ref 256, vi a, vi b, vi d, vi e]) [] s0 0 0 (fun s' v => GI s' ∧ FL [5312, 5376, 4123, 5440, 5504, 5568, 5632, 5696, 5760] s0 s' ∧ ∃ z, v = some (vi z) ∧ ((-2147483648) ≤ z ∧ z ≤ 2147483647) ∧ (OfS s0 a b d e z)) := by
  have f0 : FL [5312, 5376, 4123, 5440, 5504, 5568, 5632, 5696, 5760] s0 s0 := FL.rf
  show xe none 217 0 [(0, .ref 256), (1, vi a), (2, vi b), (3, vi d), (4, vi e)] [] s0 0 0 _
  obtain ⟨z462, e_z462⟩ : ∃ z, z = s0 256 6 := ⟨_, rfl⟩
  have g_z462 : (0 : Int) ≤ s0 256 6 ∧ s0 256 6 ≤ 40 := hG0 256 6
  obtain ⟨z463, e_z463⟩ : ∃ z, z = s0 256 58 := ⟨_, rfl⟩
  have g_z463 : (0 : Int) ≤ s0 256 58 ∧ s0 256 58 ≤ 4 := hG0 256 58
  obtain ⟨z464, e_z464⟩ : ∃ z, z = s0 256 0 := ⟨_, rfl⟩
  have g_z464 : (0 : Int) ≤ s0 256 0 ∧ s0 256 0 ≤ 9 := hG0 256 0
  refine x_A k217_0 (fun _ => rfl) ?_
  refine x_A k217_1 (fun _ => rfl) ?_
  refine x_callV k217_2 (y := 151) (n := 1) (w0 := 0) (w1 := 1) (as := [vi a]) (rest := []) (by decide +kernel) (q := 256) (nq := 62) (kq := 15) ⟨by decide, rfl⟩ rfl rfl rfl rfl (xe_mono (C_X11_isPicture_256 s0 hG0 a ⟨by omega, by omega⟩) ?_)
  rintro s466 v ⟨h_s466, z465, rfl, hz_z465⟩
  rw [h_s466]
  rcases hz_z465 with ⟨c_z465, e_z465⟩ | ⟨c_z465, e_z465⟩
  · rw [e_z465]
    show xe none 217 5 [(0, .ref 256), (1, vi a), (2, vi b), (3, vi d), (4, vi e)] [vi 1] s0 0 0 _
    refine x_if_eq k217_5 (t := 24) rfl ⟨by omega, by omega⟩ (fun c467 => by exfalso; omega) (fun c467 => ?_)
    refine x_A k217_8 (fun _ => rfl) ?_
    refine x_i2l k217_9 ⟨by omega, by omega⟩ ?_
    refine x_lconst k217_10 (z := 0) (by decide +kernel) ?_
    refine x_A k217_11 (fun _ => rfl) ?_
    refine x_getI k217_12 (f := 58) rfl (q := 256) (n := 62) (kd := 15) ⟨by decide, rfl⟩ (by decide) rfl ?_
    refine x_rw (e_z463.symm) ?_
    refine x_A k217_15 (fun _ => rfl) ?_
    refine x_isub k217_16 ?_
    refine x_top (fun z468 e_z468 => ?_)
    refine x_i2l k217_17 ⟨by omega, by omega⟩ ?_
    refine x_callS k217_18 (y := 136) (n := 3) (w0 := 0) (w1 := 6) (as := [vj b, vj 0, vj z468]) (rest := []) (by decide +kernel) rfl rfl rfl rfl (xe_mono (C_X11_in s0 hG0 b ⟨by omega, by omega⟩ 0 ⟨by omega, by omega⟩ z468 ⟨by omega, by omega⟩) ?_)
    rintro s470 v ⟨h_s470, z469, rfl, hz_z469⟩
    rw [h_s470]
    rcases hz_z469 with ⟨c_z469, e_z469⟩ | ⟨c_z469, e_z469⟩
    · rw [e_z469]
      show xe none 217 21 [(0, .ref 256), (1, vi a), (2, vi b), (3, vi d), (4, vi e)] [vi 1] s0 0 0 _
      refine x_if_ne k217_21 (t := 28) rfl ⟨by omega, by omega⟩ (fun c471 => ?_) (fun c471 => by exfalso; omega)
      refine x_A k217_28 (fun _ => rfl) ?_
      refine x_A k217_29 (fun _ => rfl) ?_
      refine x_callV k217_30 (y := 138) (n := 1) (w0 := 0) (w1 := 1) (as := [vi d]) (rest := []) (by decide +kernel) (q := 256) (nq := 62) (kq := 15) ⟨by decide, rfl⟩ rfl rfl rfl rfl (xe_mono (C_X11_isEdition_256 s0 hG0 d ⟨by omega, by omega⟩) ?_)
      rintro s473 v ⟨h_s473, z472, rfl, hz_z472⟩
      rw [h_s473]
      rcases hz_z472 with ⟨c_z472, e_z472⟩ | ⟨c_z472, e_z472⟩
      · rw [e_z472]
        show xe none 217 33 [(0, .ref 256), (1, vi a), (2, vi b), (3, vi d), (4, vi e)] [vi 1] s0 0 0 _
        refine x_if_eq k217_33 (t := 49) rfl ⟨by omega, by omega⟩ (fun c474 => by exfalso; omega) (fun c474 => ?_)
        refine x_A k217_36 (fun _ => rfl) ?_
        refine x_i2l k217_38 ⟨by omega, by omega⟩ ?_
        refine x_lconst k217_39 (z := 0) (by decide +kernel) ?_
        refine x_ldc2 k217_40 (z := 2) rfl (by decide +kernel) ?_
        refine x_callS k217_43 (y := 136) (n := 3) (w0 := 0) (w1 := 6) (as := [vj e, vj 0, vj 2]) (rest := []) (by decide +kernel) rfl rfl rfl rfl (xe_mono (C_X11_in s0 hG0 e ⟨by omega, by omega⟩ 0 ⟨by omega, by omega⟩ 2 ⟨by omega, by omega⟩) ?_)
        rintro s476 v ⟨h_s476, z475, rfl, hz_z475⟩
        rw [h_s476]
        rcases hz_z475 with ⟨c_z475, e_z475⟩ | ⟨c_z475, e_z475⟩
        · rw [e_z475]
          show xe none 217 46 [(0, .ref 256), (1, vi a), (2, vi b), (3, vi d), (4, vi e)] [vi 1] s0 0 0 _
          refine x_if_ne k217_46 (t := 53) rfl ⟨by omega, by omega⟩ (fun c477 => ?_) (fun c477 => by exfalso; omega)
          refine x_A k217_53 (fun _ => rfl) ?_
          refine x_A k217_54 (fun _ => rfl) ?_
          refine x_callV k217_55 (y := 168) (n := 1) (w0 := 0) (w1 := 1) (as := [vi d]) (rest := []) (by decide +kernel) (q := 256) (nq := 62) (kq := 15) ⟨by decide, rfl⟩ rfl rfl rfl rfl (xe_mono (E_X11_find_256 s0 hG0 (hJ0.fl f0 (by decide)) d ⟨by omega, by omega⟩ (pR.fl f0 (by decide)) (pT.fl (hG0 256 1).2 f0 (by decide)) (pG1.fl f0 (by decide)) (pG3.fl f0 (by decide))) ?_)
          rintro s479 v ⟨hG_s479, t_s479, rfl, xp_z478⟩
          have f_s479 : FL [5312, 5376, 4123, 5440, 5504, 5568, 5632, 5696, 5760] s0 s479 := f0.tr t_s479 (by decide)
          have q480 : s479 256 6 = z462 := (t_s479 256 6 (show 4103 ∉ [5312, 5376, 4123, 5440, 5504, 5568, 5632, 5696, 5760] from by decide)).trans e_z462.symm
          have q481 : s479 256 58 = z463 := (t_s479 256 58 (show 4155 ∉ [5312, 5376, 4123, 5440, 5504, 5568, 5632, 5696, 5760] from by decide)).trans e_z463.symm
          have q482 : s479 256 0 = z464 := (t_s479 256 0 (show 4097 ∉ [5312, 5376, 4123, 5440, 5504, 5568, 5632, 5696, 5760] from by decide)).trans e_z464.symm
          show xe none 217 58 [(0, .ref 256), (1, vi a), (2, vi b), (3, vi d), (4, vi e)] [] s479 0 0 _
          have e6_ : s479 256 6 = s0 256 6 := f_s479 256 6 (show 4103 ∉ [5312, 5376, 4123, 5440, 5504, 5568, 5632, 5696, 5760] from by decide)
          have e58_ : s479 256 58 = s0 256 58 := f_s479 256 58 (show 4155 ∉ [5312, 5376, 4123, 5440, 5504, 5568, 5632, 5696, 5760] from by decide)
          have g292_ : (0 : Int) ≤ s0 292 b.toNat ∧ s0 292 b.toNat ≤ 5 := hG0 292 _
          have m232_ : s0 232 b.toNat = s0 292 b.toNat := (pS1.2 b (by omega) (by have q := pS1.1; omega)).2.1 (by omega)
          refine x_A k217_58 (fun _ => rfl) ?_
          refine x_istore k217_59 (ls' := [(5, vi 0), (0, .ref 256), (1, vi a), (2, vi b), (3, vi d), (4, vi e)]) (by decide) rfl ?_
          refine x_A k217_61 (fun _ => rfl) ?_
          refine x_istore k217_62 (ls' := [(6, vi (-1)), (5, vi 0), (0, .ref 256), (1, vi a), (2, vi b), (3, vi d), (4, vi e)]) (by decide) rfl ?_
          refine x_A k217_64 (fun _ => rfl) ?_
          refine x_istore k217_65 (ls' := [(7, vi 0), (6, vi (-1)), (5, vi 0), (0, .ref 256), (1, vi a), (2, vi b), (3, vi d), (4, vi e)]) (by decide) rfl ?_
          refine x_ls (l := [(0, .ref 256), (1, vi a), (2, vi b), (3, vi d), (4, vi e), (5, vi 0), (6, vi (-1)), (7, vi 0)]) (show ([0, 1, 2, 3, 4, 5, 6, 7] : List Nat).Nodup from by decide) ⟨rfl, rfl, rfl, rfl, rfl, rfl, rfl, rfl, trivial⟩ ?_
          exact L_W_X11_of_256_67 s0 hJ0 hG0 a b_a b b_b d b_d e b_e pR pT pG1 pG3 pS1 pS2  (((6 - 0) + 1 : Int)).toNat s479 a b d e 0 (-1) 0 hG_s479 f_s479 ⟨by omega, by omega⟩ ⟨by omega, by omega⟩ ⟨by omega, by omega⟩ ⟨by omega, by omega⟩ ⟨by omega, by omega⟩ ⟨by omega, by omega⟩ ⟨by omega, by omega⟩ (by omega) (by omega) (by omega) (by omega) xp_z478 (show _ = _ from rfl) ofF_0  (by omega)
        · rw [e_z475]
          show xe none 217 46 [(0, .ref 256), (1, vi a), (2, vi b), (3, vi d), (4, vi e)] [vi 0] s0 0 0 _
          refine x_if_ne k217_46 (t := 53) rfl ⟨by omega, by omega⟩ (fun c483 => by exfalso; omega) (fun c483 => ?_)
          refine x_sipush k217_49 (by decide +kernel) ?_
          exact x_iret k217_52 rfl ⟨hG0, f0, (-1002), rfl, ⟨by omega, by omega⟩, (by have q0 := pT.1.1; have q2 := pG3.1; have q3 := pS1.1; unfold OfS; exact Or.inr (Or.inl ⟨by omega, by omega, rfl⟩))⟩
      · rw [e_z472]
        show xe none 217 33 [(0, .ref 256), (1, vi a), (2, vi b), (3, vi d), (4, vi e)] [vi 0] s0 0 0 _
        refine x_if_eq k217_33 (t := 49) rfl ⟨by omega, by omega⟩ (fun c484 => ?_) (fun c484 => by exfalso; omega)
        refine x_sipush k217_49 (by decide +kernel) ?_
        exact x_iret k217_52 rfl ⟨hG0, f0, (-1002), rfl, ⟨by omega, by omega⟩, (by have q0 := pT.1.1; have q2 := pG3.1; have q3 := pS1.1; unfold OfS; exact Or.inr (Or.inl ⟨by omega, by omega, rfl⟩))⟩
    · rw [e_z469]
      show xe none 217 21 [(0, .ref 256), (1, vi a), (2, vi b), (3, vi d), (4, vi e)] [vi 0] s0 0 0 _
      refine x_if_ne k217_21 (t := 28) rfl ⟨by omega, by omega⟩ (fun c485 => by exfalso; omega) (fun c485 => ?_)
      refine x_sipush k217_24 (by decide +kernel) ?_
      exact x_iret k217_27 rfl ⟨hG0, f0, (-1001), rfl, ⟨by omega, by omega⟩, (by have q0 := pT.1.1; have q2 := pG3.1; have q3 := pS1.1; unfold OfS; exact Or.inl ⟨by omega, rfl⟩)⟩
  · rw [e_z465]
    show xe none 217 5 [(0, .ref 256), (1, vi a), (2, vi b), (3, vi d), (4, vi e)] [vi 0] s0 0 0 _
    refine x_if_eq k217_5 (t := 24) rfl ⟨by omega, by omega⟩ (fun c486 => ?_) (fun c486 => by exfalso; omega)
    refine x_sipush k217_24 (by decide +kernel) ?_
    exact x_iret k217_27 rfl ⟨hG0, f0, (-1001), rfl, ⟨by omega, by omega⟩, (by have q0 := pT.1.1; have q2 := pG3.1; have q3 := pS1.1; unfold OfS; exact Or.inl ⟨by omega, rfl⟩)⟩
