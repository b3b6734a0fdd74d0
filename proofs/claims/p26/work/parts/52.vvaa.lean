set_option maxHeartbeats 8000000 in
theorem L_W_X11_likely_256_157 (s0 : xS) (hJ0 : J s0) (hG0 : GI s0) (a : Int) (b_a : (-2147483648) ≤ a ∧ a ≤ 2147483647) (b : Int) (b_b : (-2147483648) ≤ b ∧ b ≤ 2147483647) (d : Int) (b_d : (-2147483648) ≤ d ∧ d ≤ 2147483647) (pR : R1 s0) (pT : TR s0) (pG1 : G1 s0) (pG3 : G3 s0) (pY : Y1 s0) (n_149 : Nat) (ih_149 : ∀ (s : xS) (x1 : Int) (x2 : Int) (x3 : Int) (x4 : Int) (x5 : Int) (x1000 : Int) (x1001 : Int) (hG : GI s) (f : FL [5312, 5376, 4123, 5440, 5504, 5568, 5632, 5696, 5760, 4150, 4151, 4152, 4153, 6336] s0 s) (b_x1 : 0 ≤ x1 ∧ x1 ≤ 39) (b_x2 : 0 ≤ x2 ∧ x2 ≤ 9) (b_x3 : (-2147483648) ≤ x3 ∧ x3 ≤ 2147483647) (b_x4 : 0 ≤ x4 ∧ x4 ≤ 40) (b_x5 : 0 ≤ x5 ∧ x5 ≤ 40) (b_x1000 : 0 ≤ x1000 ∧ x1000 ≤ 40) (b_x1001 : 1 ≤ x1001 ∧ x1001 ≤ 40) (r_5_4 : x5 ≤ x4 + 40) (r_5_1001 : x5 ≤ x1001 + 39) (r_1_1001 : x1 ≤ x1001 + 0) (w_0 : x1 = a ∧ x2 = b ∧ x3 = d ∧ x1000 = s0 256 6 ∧ x1001 = s0 256 1) (w_1 : (0 ≤ a ∧ a < s0 256 1) ∧ 0 ≤ b ∧ b ≤ s0 256 0) (w_2 : 0 ≤ x4 ∧ x4 ≤ 40 ∧ 0 ≤ x5) (w_3 : FdZ s s0 b) (w_4 : ∀ p : Int, 0 ≤ p → p < s0 256 6 → s 291 p.toNat = liN s0 b a (s0 1 4) p.toNat) (w_5 : lkW (liN s0 b a (s0 1 4)) (s0 46 3).toNat d x5 0 x4) (e_x1000 : x1000 = s 256 6) (e_x1001 : x1001 = s 256 1) (hm : (x5 - 0) < (n_149 : Int)), xe none 212 149 [(0, .ref 256), (1, vi x1), (2, vi x2), (3, vi x3), (4, vi x4), (5, vi x5)] [] s 0 0 (fun s' v => GI s' ∧ FL [5312, 5376, 4123, 5440, 5504, 5568, 5632, 5696, 5760, 4150, 4151, 4152, 4153, 6336] s0 s' ∧ ∃ z, v = some (vi z) ∧ ((-2147483648) ≤ z ∧ z ≤ 2147483647) ∧ (LkS s0 a b d z))) : ∀ (n : Nat) (s : xS) (x1 : Int) (x2 : Int) (x3 : Int) (x4 : Int) (x5 : Int) (x6 : Int) (x1000 : Int) (x1001 : Int) (hG : GI s) (f : FL [5312, 5376, 4123, 5440, 5504, 5568, 5632, 5696, 5760, 4150, 4151, 4152, 4153, 6336] s0 s) (b_x1 : 0 ≤ x1 ∧ x1 ≤ 39) (b_x2 : 0 ≤ x2 ∧ x2 ≤ 9) (b_x3 : (-2147483648) ≤ x3 ∧ x3 ≤ 2147483647) (b_x4 : 0 ≤ x4 ∧ x4 ≤ 40) (b_x5 : 1 ≤ x5 ∧ x5 ≤ 40) (b_x6 : 0 ≤ x6 ∧ x6 ≤ 40) (b_x1000 : 0 ≤ x1000 ∧ x1000 ≤ 40) (b_x1001 : 1 ≤ x1001 ∧ x1001 ≤ 40) (r_5_6 : x5 ≤ x6 + 40) (r_5_4 : x5 ≤ x4 + 40) (r_6_1000 : x6 ≤ x1000 + 0) (r_1_1001 : x1 ≤ x1001 + 0) (w_0 : x1 = a ∧ x2 = b ∧ x3 = d ∧ x1000 = s0 256 6 ∧ x1001 = s0 256 1) (w_1 : (0 ≤ a ∧ a < s0 256 1) ∧ 0 ≤ b ∧ b ≤ s0 256 0) (w_2 : 0 ≤ x4 ∧ x4 ≤ 40 ∧ 1 ≤ x5 ∧ x6 ≤ x1000) (w_3 : FdZ s s0 b) (w_4 : ∀ p : Int, 0 ≤ p → p < s0 256 6 → s 291 p.toNat = liN s0 b a (s0 1 4) p.toNat) (w_5 : lkW (liN s0 b a (s0 1 4)) (s0 46 3).toNat d x5 x6 x4) (e_x1000 : x1000 = s 256 6) (e_x1001 : x1001 = s 256 1) (k_149 : (x5 - 0) < (n_149 : Int) + 1) (hm : (40 - x6) < (n : Int)), xe none 212 157 [(0, .ref 256), (1, vi x1), (2, vi x2), (3, vi x3), (4, vi x4), (5, vi x5), (6, vi x6)] [] s 0 0 (fun s' v => GI s' ∧ FL [5312, 5376, 4123, 5440, 5504, 5568, 5632, 5696, 5760, 4150, 4151, 4152, 4153, 6336] s0 s' ∧ ∃ z, v = some (vi z) ∧ ((-2147483648) ≤ z ∧ z ≤ 2147483647) ∧ (LkS s0 a b d z)) := by
  intro n
  induction n with
  | zero => intro s x1 x2 x3 x4 x5 x6 x1000 x1001 hG f b_x1 b_x2 b_x3 b_x4 b_x5 b_x6 b_x1000 b_x1001 r_5_6 r_5_4 r_6_1000 r_1_1001 w_0 w_1 w_2 w_3 w_4 w_5 e_x1000 e_x1001 k_149 hm; exfalso; omega
  | succ n ih =>
    intro s x1 x2 x3 x4 x5 x6 x1000 x1001 hG f b_x1 b_x2 b_x3 b_x4 b_x5 b_x6 b_x1000 b_x1001 r_5_6 r_5_4 r_6_1000 r_1_1001 w_0 w_1 w_2 w_3 w_4 w_5 e_x1000 e_x1001 k_149 hm
    have t14_ := pT.1.2.1
    have g46_ := pG3.1
    have g14_ : (1 : Int) ≤ s0 1 4 ∧ s0 1 4 ≤ 40 := hG0 1 4
    have g6_ : (0 : Int) ≤ s0 256 6 ∧ s0 256 6 ≤ 40 := hG0 256 6
    refine x_A k212_157 (fun _ => rfl) ?_
    refine x_A k212_159 (fun _ => rfl) ?_
    refine x_getI k212_160 (f := 6) rfl (q := 256) (n := 62) (kd := 15) ⟨by decide, rfl⟩ (by decide) rfl ?_
    refine x_rw (e_x1000.symm) ?_
    refine x_ic_ge k212_163 (t := 196) rfl ⟨by omega, by omega⟩ ⟨by omega, by omega⟩ (fun c1010 => ?_) (fun c1010 => ?_)
    · skip
      refine x_iinc k212_196 (ls' := [(5, vi (x5 + (-1))), (0, .ref 256), (1, vi x1), (2, vi x2), (3, vi x3), (4, vi x4), (6, vi x6)]) rfl (by decide) rfl ?_
      refine x_goto k212_199 (t := 149) rfl ?_
      refine x_ls (l := [(0, .ref 256), (1, vi x1), (2, vi x2), (3, vi x3), (4, vi x4), (5, vi (x5 + (-1)))]) (show ([0, 1, 2, 3, 4, 5] : List Nat).Nodup from by decide) ⟨rfl, rfl, rfl, rfl, rfl, rfl, trivial⟩ ?_
      exact ih_149 s x1 x2 x3 x4 (x5 + (-1)) x1000 x1001 hG f ⟨by omega, by omega⟩ ⟨by omega, by omega⟩ ⟨by omega, by omega⟩ ⟨by omega, by omega⟩ ⟨by omega, by omega⟩ ⟨by omega, by omega⟩ ⟨by omega, by omega⟩ (by omega) (by omega) (by omega) (by omega) (by omega) (by omega) w_3 w_4 (by have q9 := lkW.next w_5 (by omega); rw [show x5 + -1 = x5 - 1 by omega]; exact q9) (e_x1000.symm).symm (e_x1001.symm).symm (by omega)
    · skip
      refine x_A k212_166 (fun _ => rfl) ?_
      refine x_getR k212_167 (f := 57) rfl (q := 256) (n := 62) (kd := 15) ⟨by decide, rfl⟩ (q2 := 291) (by decide) rfl ?_
      refine x_A k212_170 (fun _ => rfl) ?_
      refine x_iald k212_172 (q := 291) (n := 40) ⟨by decide, rfl⟩ (by decide) ⟨by omega, by omega⟩ ?_
      refine x_top (fun z1011 e_z1011 => ?_)
      have g_z1011 : (-2147483648) ≤ s 291 x6.toNat ∧ s 291 x6.toNat ≤ 2147483647 := hG 291 x6.toNat
      refine x_A k212_173 (fun _ => rfl) ?_
      refine x_ic_ne k212_175 (t := 190) rfl ⟨by omega, by omega⟩ ⟨by omega, by omega⟩ (fun c1012 => ?_) (fun c1012 => ?_)
      · skip
        refine x_iinc k212_190 (ls' := [(6, vi (x6 + 1)), (0, .ref 256), (1, vi x1), (2, vi x2), (3, vi x3), (4, vi x4), (5, vi x5)]) rfl (by decide) rfl ?_
        refine x_goto k212_193 (t := 157) rfl ?_
        refine x_ls (l := [(0, .ref 256), (1, vi x1), (2, vi x2), (3, vi x3), (4, vi x4), (5, vi x5), (6, vi (x6 + 1))]) (show ([0, 1, 2, 3, 4, 5, 6] : List Nat).Nodup from by decide) ⟨rfl, rfl, rfl, rfl, rfl, rfl, rfl, trivial⟩ ?_
        exact ih s x1 x2 x3 x4 x5 (x6 + 1) x1000 x1001 hG f ⟨by omega, by omega⟩ ⟨by omega, by omega⟩ ⟨by omega, by omega⟩ ⟨by omega, by omega⟩ ⟨by omega, by omega⟩ ⟨by omega, by omega⟩ ⟨by omega, by omega⟩ ⟨by omega, by omega⟩ (by omega) (by omega) (by omega) (by omega) (by omega) (by omega) (by omega) w_3 w_4 (lkW.skip w_5 (by omega) (by have q9 := w_4 x6 (by omega) (by omega); omega)) (e_x1000.symm).symm (e_x1001.symm).symm (by omega) (by omega)
      · skip
        have fz : (liN s0 b a (s0 1 4)) x6.toNat = x5 := by have q9 := w_4 x6 (by omega) (by omega); omega
        have cx : 0 ≤ x4 ∧ x4 ≤ 39 := by have q := lkc_in (f := (liN s0 b a (s0 1 4))) (N := (s0 46 3).toNat) (sc := x5) (p := x6.toNat) (by omega) fz; have q2 := ctp_le (P := bfr (liN s0 b a (s0 1 4)) x5 (x6.toNat + 1)) (s0 46 3).toNat; have q3 := (ctp_ge (P := bfr (liN s0 b a (s0 1 4)) x5 x6.toNat) (s0 46 3).toNat).1; have q4 := w_5.1; unfold lkc at q q4; omega
        refine x_A k212_178 (fun _ => rfl) ?_
        refine x_A k212_180 (fun _ => rfl) ?_
        refine x_ic_ne k212_181 (t := 187) rfl ⟨by omega, by omega⟩ ⟨by omega, by omega⟩ (fun c1013 => ?_) (fun c1013 => ?_)
        · skip
          refine x_iinc k212_187 (ls' := [(4, vi (x4 + 1)), (0, .ref 256), (1, vi x1), (2, vi x2), (3, vi x3), (5, vi x5), (6, vi x6)]) rfl (by decide) rfl ?_
          refine x_iinc k212_190 (ls' := [(6, vi (x6 + 1)), (4, vi (x4 + 1)), (0, .ref 256), (1, vi x1), (2, vi x2), (3, vi x3), (5, vi x5)]) rfl (by decide) rfl ?_
          refine x_goto k212_193 (t := 157) rfl ?_
          refine x_ls (l := [(0, .ref 256), (1, vi x1), (2, vi x2), (3, vi x3), (4, vi (x4 + 1)), (5, vi x5), (6, vi (x6 + 1))]) (show ([0, 1, 2, 3, 4, 5, 6] : List Nat).Nodup from by decide) ⟨rfl, rfl, rfl, rfl, rfl, rfl, rfl, trivial⟩ ?_
          exact ih s x1 x2 x3 (x4 + 1) x5 (x6 + 1) x1000 x1001 hG f ⟨by omega, by omega⟩ ⟨by omega, by omega⟩ ⟨by omega, by omega⟩ ⟨by omega, by omega⟩ ⟨by omega, by omega⟩ ⟨by omega, by omega⟩ ⟨by omega, by omega⟩ ⟨by omega, by omega⟩ (by omega) (by omega) (by omega) (by omega) (by omega) (by omega) (by omega) w_3 w_4 (lkW.hit w_5 ⟨by omega, by omega⟩ fz (by omega)) (e_x1000.symm).symm (e_x1001.symm).symm (by omega) (by omega)
        · skip
          refine x_A k212_184 (fun _ => rfl) ?_
          exact x_iret k212_186 rfl ⟨hG, f, x6, rfl, ⟨by omega, by omega⟩, (by have q0 := pT.1.1; have q2 := pT.1.2.1; unfold LkS; exact Or.inr (Or.inr ⟨by omega, by omega, (lkW.got w_5 ⟨by omega, by omega⟩ fz (by omega) (by omega) (by omega))⟩))⟩
set_option maxHeartbeats 8000000 in
theorem L_W_X11_likely_256_149 (s0 : xS) (hJ0 : J s0) (hG0 : GI s0) (a : Int) (b_a : (-2147483648) ≤ a ∧ a ≤ 2147483647) (b : Int) (b_b : (-2147483648) ≤ b ∧ b ≤ 2147483647) (d : Int) (b_d : (-2147483648) ≤ d ∧ d ≤ 2147483647) (pR : R1 s0) (pT : TR s0) (pG1 : G1 s0) (pG3 : G3 s0) (pY : Y1 s0)  : ∀ (n : Nat) (s : xS) (x1 : Int) (x2 : Int) (x3 : Int) (x4 : Int) (x5 : Int) (x1000 : Int) (x1001 : Int) (hG : GI s) (f : FL [5312, 5376, 4123, 5440, 5504, 5568, 5632, 5696, 5760, 4150, 4151, 4152, 4153, 6336] s0 s) (b_x1 : 0 ≤ x1 ∧ x1 ≤ 39) (b_x2 : 0 ≤ x2 ∧ x2 ≤ 9) (b_x3 : (-2147483648) ≤ x3 ∧ x3 ≤ 2147483647) (b_x4 : 0 ≤ x4 ∧ x4 ≤ 40) (b_x5 : 0 ≤ x5 ∧ x5 ≤ 40) (b_x1000 : 0 ≤ x1000 ∧ x1000 ≤ 40) (b_x1001 : 1 ≤ x1001 ∧ x1001 ≤ 40) (r_5_4 : x5 ≤ x4 + 40) (r_5_1001 : x5 ≤ x1001 + 39) (r_1_1001 : x1 ≤ x1001 + 0) (w_0 : x1 = a ∧ x2 = b ∧ x3 = d ∧ x1000 = s0 256 6 ∧ x1001 = s0 256 1) (w_1 : (0 ≤ a ∧ a < s0 256 1) ∧ 0 ≤ b ∧ b ≤ s0 256 0) (w_2 : 0 ≤ x4 ∧ x4 ≤ 40 ∧ 0 ≤ x5) (w_3 : FdZ s s0 b) (w_4 : ∀ p : Int, 0 ≤ p → p < s0 256 6 → s 291 p.toNat = liN s0 b a (s0 1 4) p.toNat) (w_5 : lkW (liN s0 b a (s0 1 4)) (s0 46 3).toNat d x5 0 x4) (e_x1000 : x1000 = s 256 6) (e_x1001 : x1001 = s 256 1)  (hm : (x5 - 0) < (n : Int)), xe none 212 149 [(0, .ref 256), (1, vi x1), (2, vi x2), (3, vi x3), (4, vi x4), (5, vi x5)] [] s 0 0 (fun s' v => GI s' ∧ FL [5312, 5376, 4123, 5440, 5504, 5568, 5632, 5696, 5760, 4150, 4151, 4152, 4153, 6336] s0 s' ∧ ∃ z, v = some (vi z) ∧ ((-2147483648) ≤ z ∧ z ≤ 2147483647) ∧ (LkS s0 a b d z)) := by
  intro n
  induction n with
  | zero => intro s x1 x2 x3 x4 x5 x1000 x1001 hG f b_x1 b_x2 b_x3 b_x4 b_x5 b_x1000 b_x1001 r_5_4 r_5_1001 r_1_1001 w_0 w_1 w_2 w_3 w_4 w_5 e_x1000 e_x1001  hm; exfalso; omega
  | succ n ih =>
    intro s x1 x2 x3 x4 x5 x1000 x1001 hG f b_x1 b_x2 b_x3 b_x4 b_x5 b_x1000 b_x1001 r_5_4 r_5_1001 r_1_1001 w_0 w_1 w_2 w_3 w_4 w_5 e_x1000 e_x1001  hm
    have t14_ := pT.1.2.1
    have g46_ := pG3.1
    have g14_ : (1 : Int) ≤ s0 1 4 ∧ s0 1 4 ≤ 40 := hG0 1 4
    have g6_ : (0 : Int) ≤ s0 256 6 ∧ s0 256 6 ≤ 40 := hG0 256 6
    refine x_A k212_149 (fun _ => rfl) ?_
    refine x_if_le k212_151 (t := 202) rfl ⟨by omega, by omega⟩ (fun c1014 => ?_) (fun c1014 => ?_)
    · skip
      refine x_A k212_202 (fun _ => rfl) ?_
      refine x_A k212_203 (fun _ => rfl) ?_
      refine x_ic_ne k212_204 (t := 212) rfl ⟨by omega, by omega⟩ ⟨by omega, by omega⟩ (fun c1015 => ?_) (fun c1015 => ?_)
      · skip
        refine x_A k212_212 (fun _ => rfl) ?_
        exact x_iret k212_213 rfl ⟨hG, f, (-1), rfl, ⟨by omega, by omega⟩, (by have q0 := pT.1.1; have q2 := pT.1.2.1; unfold LkS; exact Or.inr (Or.inr ⟨by omega, by omega, (Or.inr ⟨by omega, Or.inl ⟨rfl, (lkW.fin w_5 rfl (by omega)).2⟩⟩)⟩))⟩
      · skip
        refine x_A k212_207 (fun _ => rfl) ?_
        refine x_goto k212_209 (t := 213) rfl ?_
        exact x_iret k212_213 rfl ⟨hG, f, x4, rfl, ⟨by omega, by omega⟩, (by have q0 := pT.1.1; have q2 := pT.1.2.1; unfold LkS; exact Or.inr (Or.inr ⟨by omega, by omega, (Or.inl ⟨by omega, (lkW.fin w_5 rfl (by omega)).1⟩)⟩))⟩
    · skip
      refine x_A k212_154 (fun _ => rfl) ?_
      refine x_istore k212_155 (ls' := [(6, vi 0), (0, .ref 256), (1, vi x1), (2, vi x2), (3, vi x3), (4, vi x4), (5, vi x5)]) (by decide) rfl ?_
      refine x_ls (l := [(0, .ref 256), (1, vi x1), (2, vi x2), (3, vi x3), (4, vi x4), (5, vi x5), (6, vi 0)]) (show ([0, 1, 2, 3, 4, 5, 6] : List Nat).Nodup from by decide) ⟨rfl, rfl, rfl, rfl, rfl, rfl, rfl, trivial⟩ ?_
      exact L_W_X11_likely_256_157 s0 hJ0 hG0 a b_a b b_b d b_d pR pT pG1 pG3 pY n (fun s x1 x2 x3 x4 x5 x1000 x1001 hG f b_x1 b_x2 b_x3 b_x4 b_x5 b_x1000 b_x1001 r_5_4 r_5_1001 r_1_1001 w_0 w_1 w_2 w_3 w_4 w_5 e_x1000 e_x1001 hm => ih s x1 x2 x3 x4 x5 x1000 x1001 hG f b_x1 b_x2 b_x3 b_x4 b_x5 b_x1000 b_x1001 r_5_4 r_5_1001 r_1_1001 w_0 w_1 w_2 w_3 w_4 w_5 e_x1000 e_x1001  hm) (((40 - 0) + 1 : Int)).toNat s x1 x2 x3 x4 x5 0 x1000 x1001 hG f ⟨by omega, by omega⟩ ⟨by omega, by omega⟩ ⟨by omega, by omega⟩ ⟨by omega, by omega⟩ ⟨by omega, by omega⟩ ⟨by omega, by omega⟩ ⟨by omega, by omega⟩ ⟨by omega, by omega⟩ (by omega) (by omega) (by omega) (by omega) (by omega) (by omega) (by omega) w_3 w_4 w_5 (e_x1000.symm).symm (e_x1001.symm).symm (by omega) (by omega)
set_option maxHeartbeats 8000000 in
theorem L_W_X11_likely_256_80 (s0 : xS) (hJ0 : J s0) (hG0 : GI s0) (a : Int) (b_a : (-2147483648) ≤ a ∧ a ≤ 2147483647) (b : Int) (b_b : (-2147483648) ≤ b ∧ b ≤ 2147483647) (d : Int) (b_d : (-2147483648) ≤ d ∧ d ≤ 2147483647) (pR : R1 s0) (pT : TR s0) (pG1 : G1 s0) (pG3 : G3 s0) (pY : Y1 s0) (n_58 : Nat) (ih_58 : ∀ (s : xS) (x1 : Int) (x2 : Int) (x3 : Int) (x4 : Int) (x1000 : Int) (x1001 : Int) (hG : GI s) (f : FL [5312, 5376, 4123, 5440, 5504, 5568, 5632, 5696, 5760, 4150, 4151, 4152, 4153, 6336] s0 s) (b_x1 : 0 ≤ x1 ∧ x1 ≤ 39) (b_x2 : 0 ≤ x2 ∧ x2 ≤ 9) (b_x3 : (-2147483648) ≤ x3 ∧ x3 ≤ 2147483647) (b_x4 : 0 ≤ x4 ∧ x4 ≤ 40) (b_x1000 : 0 ≤ x1000 ∧ x1000 ≤ 40) (b_x1001 : 1 ≤ x1001 ∧ x1001 ≤ 40) (r_1_1001 : x1 ≤ x1001 + 0) (w_0 : x1 = a ∧ x2 = b ∧ x3 = d ∧ x1000 = s0 256 6 ∧ x1001 = s0 256 1) (w_1 : (0 ≤ a ∧ a < s0 256 1) ∧ 0 ≤ b ∧ b ≤ s0 256 0) (w_2 : x4 ≤ x1001) (w_3 : FdZ s s0 b) (w_4 : ∀ p : Int, 0 ≤ p → p < s0 256 6 → s 291 p.toNat = liN s0 b a x4 p.toNat) (e_x1000 : x1000 = s 256 6) (e_x1001 : x1001 = s 256 1) (hm : (40 - x4) < (n_58 : Int)), xe none 212 58 [(0, .ref 256), (1, vi x1), (2, vi x2), (3, vi x3), (4, vi x4)] [] s 0 0 (fun s' v => GI s' ∧ FL [5312, 5376, 4123, 5440, 5504, 5568, 5632, 5696, 5760, 4150, 4151, 4152, 4153, 6336] s0 s' ∧ ∃ z, v = some (vi z) ∧ ((-2147483648) ≤ z ∧ z ≤ 2147483647) ∧ (LkS s0 a b d z))) : ∀ (n : Nat) (s : xS) (x1 : Int) (x2 : Int) (x3 : Int) (x4 : Int) (x5 : Int) (x6 : Int) (x1000 : Int) (x1001 : Int) (hG : GI s) (f : FL [5312, 5376, 4123, 5440, 5504, 5568, 5632, 5696, 5760, 4150, 4151, 4152, 4153, 6336] s0 s) (b_x1 : 0 ≤ x1 ∧ x1 ≤ 39) (b_x2 : 0 ≤ x2 ∧ x2 ≤ 9) (b_x3 : (-2147483648) ≤ x3 ∧ x3 ≤ 2147483647) (b_x4 : 0 ≤ x4 ∧ x4 ≤ 39) (b_x5 : 0 ≤ x5 ∧ x5 ≤ 1) (b_x6 : 0 ≤ x6 ∧ x6 ≤ 40) (b_x1000 : 0 ≤ x1000 ∧ x1000 ≤ 40) (b_x1001 : 1 ≤ x1001 ∧ x1001 ≤ 40) (r_6_1000 : x6 ≤ x1000 + 0) (r_5_1001 : x5 ≤ x1001 + 0) (r_1_1001 : x1 ≤ x1001 + 0) (r_4_1001 : x4 ≤ x1001 + 0) (w_0 : x1 = a ∧ x2 = b ∧ x3 = d ∧ x1000 = s0 256 6 ∧ x1001 = s0 256 1) (w_1 : (0 ≤ a ∧ a < s0 256 1) ∧ 0 ≤ b ∧ b ≤ s0 256 0) (w_2 : x4 < x1001 ∧ x6 ≤ x1000) (w_3 : FdZ s s0 b) (w_4 : ∀ p : Int, 0 ≤ p → p < s0 256 6 → (p < x6 → s 291 p.toNat = liN s0 b a (x4 + 1) p.toNat) ∧ (x6 ≤ p → s 291 p.toNat = liN s0 b a x4 p.toNat)) (w_5 : (x5 = 1 ∧ alC s0 b a x4) ∨ (x5 = 0 ∧ ¬ alC s0 b a x4)) (e_x1000 : x1000 = s 256 6) (e_x1001 : x1001 = s 256 1) (k_58 : (40 - x4) < (n_58 : Int) + 1) (hm : (40 - x6) < (n : Int)), xe none 212 80 [(0, .ref 256), (1, vi x1), (2, vi x2), (3, vi x3), (4, vi x4), (5, vi x5), (6, vi x6)] [] s 0 0 (fun s' v => GI s' ∧ FL [5312, 5376, 4123, 5440, 5504, 5568, 5632, 5696, 5760, 4150, 4151, 4152, 4153, 6336] s0 s' ∧ ∃ z, v = some (vi z) ∧ ((-2147483648) ≤ z ∧ z ≤ 2147483647) ∧ (LkS s0 a b d z)) := by
  intro n
  induction n with
  | zero => intro s x1 x2 x3 x4 x5 x6 x1000 x1001 hG f b_x1 b_x2 b_x3 b_x4 b_x5 b_x6 b_x1000 b_x1001 r_6_1000 r_5_1001 r_1_1001 r_4_1001 w_0 w_1 w_2 w_3 w_4 w_5 e_x1000 e_x1001 k_58 hm; exfalso; omega
  | succ n ih =>
    intro s x1 x2 x3 x4 x5 x6 x1000 x1001 hG f b_x1 b_x2 b_x3 b_x4 b_x5 b_x6 b_x1000 b_x1001 r_6_1000 r_5_1001 r_1_1001 r_4_1001 w_0 w_1 w_2 w_3 w_4 w_5 e_x1000 e_x1001 k_58 hm
    have t14_ := pT.1.2.1
    have g46_ := pG3.1
    have g14_ : (1 : Int) ≤ s0 1 4 ∧ s0 1 4 ≤ 40 := hG0 1 4
    have g6_ : (0 : Int) ≤ s0 256 6 ∧ s0 256 6 ≤ 40 := hG0 256 6
    refine x_A k212_80 (fun _ => rfl) ?_
    refine x_A k212_82 (fun _ => rfl) ?_
    refine x_getI k212_83 (f := 6) rfl (q := 256) (n := 62) (kd := 15) ⟨by decide, rfl⟩ (by decide) rfl ?_
    refine x_rw (e_x1000.symm) ?_
    refine x_ic_ge k212_86 (t := 136) rfl ⟨by omega, by omega⟩ ⟨by omega, by omega⟩ (fun c1016 => ?_) (fun c1016 => ?_)
    · skip
      refine x_iinc k212_136 (ls' := [(4, vi (x4 + 1)), (0, .ref 256), (1, vi x1), (2, vi x2), (3, vi x3), (5, vi x5), (6, vi x6)]) rfl (by decide) rfl ?_
      refine x_goto k212_139 (t := 58) rfl ?_
      refine x_ls (l := [(0, .ref 256), (1, vi x1), (2, vi x2), (3, vi x3), (4, vi (x4 + 1))]) (show ([0, 1, 2, 3, 4] : List Nat).Nodup from by decide) ⟨rfl, rfl, rfl, rfl, rfl, trivial⟩ ?_
      exact ih_58 s x1 x2 x3 (x4 + 1) x1000 x1001 hG f ⟨by omega, by omega⟩ ⟨by omega, by omega⟩ ⟨by omega, by omega⟩ ⟨by omega, by omega⟩ ⟨by omega, by omega⟩ ⟨by omega, by omega⟩ (by omega) (by omega) (by omega) (by omega) w_3 (fun p p0 p1 => w_5.elim (fun w5 => (w_4 p p0 p1).1 (by omega)) (fun w5 => (Decidable.em (p < x6)).elim (fun q => (w_4 p p0 p1).1 q) (fun q => by rw [(w_4 p p0 p1).2 (by omega), liN_s (by omega), pIf_n (fun z => w5.2 z.1)]; omega))) (e_x1000.symm).symm (e_x1001.symm).symm (by omega)
    · skip
      refine x_A k212_89 (fun _ => rfl) ?_
      refine x_if_eq k212_91 (t := 136) rfl ⟨by omega, by omega⟩ (fun c1017 => ?_) (fun c1017 => ?_)
      · skip
        refine x_iinc k212_136 (ls' := [(4, vi (x4 + 1)), (0, .ref 256), (1, vi x1), (2, vi x2), (3, vi x3), (5, vi x5), (6, vi x6)]) rfl (by decide) rfl ?_
        refine x_goto k212_139 (t := 58) rfl ?_
        refine x_ls (l := [(0, .ref 256), (1, vi x1), (2, vi x2), (3, vi x3), (4, vi (x4 + 1))]) (show ([0, 1, 2, 3, 4] : List Nat).Nodup from by decide) ⟨rfl, rfl, rfl, rfl, rfl, trivial⟩ ?_
        exact ih_58 s x1 x2 x3 (x4 + 1) x1000 x1001 hG f ⟨by omega, by omega⟩ ⟨by omega, by omega⟩ ⟨by omega, by omega⟩ ⟨by omega, by omega⟩ ⟨by omega, by omega⟩ ⟨by omega, by omega⟩ (by omega) (by omega) (by omega) (by omega) w_3 (fun p p0 p1 => w_5.elim (fun w5 => (w_4 p p0 p1).1 (by omega)) (fun w5 => (Decidable.em (p < x6)).elim (fun q => (w_4 p p0 p1).1 q) (fun q => by rw [(w_4 p p0 p1).2 (by omega), liN_s (by omega), pIf_n (fun z => w5.2 z.1)]; omega))) (e_x1000.symm).symm (e_x1001.symm).symm (by omega)
      · skip
        refine x_A k212_94 (fun _ => rfl) ?_
        refine x_getR k212_95 (f := 57) rfl (q := 256) (n := 62) (kd := 15) ⟨by decide, rfl⟩ (q2 := 291) (by decide) rfl ?_
        refine x_A k212_98 (fun _ => rfl) ?_
        refine x_A k212_100 (fun _ => rfl) ?_
        refine x_iald k212_101 (q := 291) (n := 40) ⟨by decide, rfl⟩ (by decide) ⟨by omega, by omega⟩ ?_
        refine x_top (fun z1018 e_z1018 => ?_)
        have g_z1018 : (-2147483648) ≤ s 291 x6.toNat ∧ s 291 x6.toNat ≤ 2147483647 := hG 291 x6.toNat
        have ov : z1018 = liN s0 b a x4 x6.toNat := by rw [← (w_4 x6 (by omega) (by omega)).2 (by omega)]; exact (e_z1018.symm).symm
        have ob := liN_b (s := s0) (e := b) (m := a) (n := x4) (p := x6.toNat) (by omega)
        refine x_A k212_102 (fun _ => rfl) ?_
        refine x_A k212_103 (fun _ => rfl) ?_
        refine x_A k212_105 (fun _ => rfl) ?_
        refine x_callV k212_106 (y := 169) (n := 2) (w0 := 3) (w1 := 2) (as := [vi x6, vi x1]) (rest := [vi z1018, vi x6, .ref 291]) (by decide +kernel) (q := 256) (nq := 62) (kq := 15) ⟨by decide, rfl⟩ rfl rfl rfl rfl (xe_mono (E_X11_shows_256 s hG x6 ⟨by omega, by omega⟩ x1 ⟨by omega, by omega⟩) ?_)
        rintro s1020 v ⟨-, t_s1020, z1019, rfl, g_z1019, xp_z1019⟩
        rw [t_s1020.nil]
        try rw [t_s1020.nil] at xp_z1019
        show xe none 212 109 [(0, .ref 256), (1, vi x1), (2, vi x2), (3, vi x3), (4, vi x4), (5, vi x5), (6, vi x6)] [vi z1019, vi z1018, vi x6, .ref 291] s 0 0 _
        have sh1 := xp_z1019
        rw [show x1 = a by omega, FdZ.sh w_3 ⟨by omega, by omega⟩ ⟨by omega, by omega⟩] at sh1
        refine x_if_ne k212_109 (t := 127) rfl ⟨by omega, by omega⟩ (fun c1021 => ?_) (fun c1021 => ?_)
        · skip
          refine x_A k212_127 (fun _ => rfl) ?_
          have e6_ : ((x6.toNat : Nat) : Int) = x6 := by omega
          have nv : liN s0 b a (x4 + 1) x6.toNat = z1018 + 0 := by rw [liN_s (by omega), pIf_n (fun q => q.2.1 (by rw [e6_]; exact (sh1.resolve_right (fun q => by omega)).2)), ← ov]
          refine x_iadd k212_128 ?_
          refine x_top (fun z1022 e_z1022 => ?_)
          refine x_iast k212_129 (q := 291) (n := 40) ⟨by decide, rfl⟩ (by decide) ⟨by omega, by omega⟩ ?_
          refine x_nh (fun s1023 e_s1023 => ?_)
          have hG_s1023 : GI s1023 := by rw [e_s1023]; exact hG.up (show (-2147483648) ≤ z1022 ∧ z1022 ≤ 2147483647 from ⟨by omega, by omega⟩)
          have f_s1023 : FL [5312, 5376, 4123, 5440, 5504, 5568, 5632, 5696, 5760, 4150, 4151, 4152, 4153, 6336] s0 s1023 := by rw [e_s1023]; exact f.up (show 6336 ∈ [5312, 5376, 4123, 5440, 5504, 5568, 5632, 5696, 5760, 4150, 4151, 4152, 4153, 6336] from by decide)
          have q1024 : s1023 256 6 = x1000 := by rw [e_s1023, x_up_q (by decide)]; exact e_x1000.symm
          have q1025 : s1023 256 1 = x1001 := by rw [e_s1023, x_up_q (by decide)]; exact e_x1001.symm
          have q1026 : s1023 291 x6.toNat = z1022 := by rw [e_s1023]; exact x_up_same
          have FDb_s1023 : FdZ s1023 s0 b := by rw [e_s1023]; exact FdZ.up w_3 (show 6336 ∉ [5440, 5504, 5568, 5632, 5696, 5760] from by decide)
          refine x_iinc k212_130 (ls' := [(6, vi (x6 + 1)), (0, .ref 256), (1, vi x1), (2, vi x2), (3, vi x3), (4, vi x4), (5, vi x5)]) rfl (by decide) rfl ?_
          refine x_goto k212_133 (t := 80) rfl ?_
          refine x_ls (l := [(0, .ref 256), (1, vi x1), (2, vi x2), (3, vi x3), (4, vi x4), (5, vi x5), (6, vi (x6 + 1))]) (show ([0, 1, 2, 3, 4, 5, 6] : List Nat).Nodup from by decide) ⟨rfl, rfl, rfl, rfl, rfl, rfl, rfl, trivial⟩ ?_
          exact ih s1023 x1 x2 x3 x4 x5 (x6 + 1) x1000 x1001 hG_s1023 f_s1023 ⟨by omega, by omega⟩ ⟨by omega, by omega⟩ ⟨by omega, by omega⟩ ⟨by omega, by omega⟩ ⟨by omega, by omega⟩ ⟨by omega, by omega⟩ ⟨by omega, by omega⟩ ⟨by omega, by omega⟩ (by omega) (by omega) (by omega) (by omega) (by omega) (by omega) (by omega) FDb_s1023 (fun p p0 p1 => by rw [e_s1023]; exact (Decidable.em (p.toNat = x6.toNat)).elim (fun q => by rw [show p = x6 by omega, x_up_same]; exact ⟨fun _ => by omega, fun z => by omega⟩) (fun q => by rw [x_up_i q]; exact ⟨fun z => (w_4 p p0 p1).1 (by omega), fun z => (w_4 p p0 p1).2 (by omega)⟩)) w_5 (q1024).symm (q1025).symm (by omega) (by omega)
        · skip
          refine x_A k212_112 (fun _ => rfl) ?_
          refine x_A k212_113 (fun _ => rfl) ?_
          refine x_A k212_115 (fun _ => rfl) ?_
          refine x_callV k212_117 (y := 169) (n := 2) (w0 := 3) (w1 := 2) (as := [vi x6, vi x4]) (rest := [vi z1018, vi x6, .ref 291]) (by decide +kernel) (q := 256) (nq := 62) (kq := 15) ⟨by decide, rfl⟩ rfl rfl rfl rfl (xe_mono (E_X11_shows_256 s hG x6 ⟨by omega, by omega⟩ x4 ⟨by omega, by omega⟩) ?_)
          rintro s1028 v ⟨-, t_s1028, z1027, rfl, g_z1027, xp_z1027⟩
          rw [t_s1028.nil]
          try rw [t_s1028.nil] at xp_z1027
          show xe none 212 120 [(0, .ref 256), (1, vi x1), (2, vi x2), (3, vi x3), (4, vi x4), (5, vi x5), (6, vi x6)] [vi z1027, vi z1018, vi x6, .ref 291] s 0 0 _
          have sh2 := xp_z1027
          rw [FdZ.sh w_3 ⟨by omega, by omega⟩ ⟨by omega, by omega⟩] at sh2
          refine x_if_eq k212_120 (t := 127) rfl ⟨by omega, by omega⟩ (fun c1029 => ?_) (fun c1029 => ?_)
          · skip
            refine x_A k212_127 (fun _ => rfl) ?_
            have e6_ : ((x6.toNat : Nat) : Int) = x6 := by omega
            have nv : liN s0 b a (x4 + 1) x6.toNat = z1018 + 0 := by rw [liN_s (by omega), pIf_n (fun q => (sh2.resolve_left (fun q => by omega)).2 (by rw [← e6_]; exact q.2.2)), ← ov]
            refine x_iadd k212_128 ?_
            refine x_top (fun z1030 e_z1030 => ?_)
            refine x_iast k212_129 (q := 291) (n := 40) ⟨by decide, rfl⟩ (by decide) ⟨by omega, by omega⟩ ?_
            refine x_nh (fun s1031 e_s1031 => ?_)
            have hG_s1031 : GI s1031 := by rw [e_s1031]; exact hG.up (show (-2147483648) ≤ z1030 ∧ z1030 ≤ 2147483647 from ⟨by omega, by omega⟩)
            have f_s1031 : FL [5312, 5376, 4123, 5440, 5504, 5568, 5632, 5696, 5760, 4150, 4151, 4152, 4153, 6336] s0 s1031 := by rw [e_s1031]; exact f.up (show 6336 ∈ [5312, 5376, 4123, 5440, 5504, 5568, 5632, 5696, 5760, 4150, 4151, 4152, 4153, 6336] from by decide)
            have q1032 : s1031 256 6 = x1000 := by rw [e_s1031, x_up_q (by decide)]; exact e_x1000.symm
            have q1033 : s1031 256 1 = x1001 := by rw [e_s1031, x_up_q (by decide)]; exact e_x1001.symm
            have q1034 : s1031 291 x6.toNat = z1030 := by rw [e_s1031]; exact x_up_same
            have FDb_s1031 : FdZ s1031 s0 b := by rw [e_s1031]; exact FdZ.up w_3 (show 6336 ∉ [5440, 5504, 5568, 5632, 5696, 5760] from by decide)
            refine x_iinc k212_130 (ls' := [(6, vi (x6 + 1)), (0, .ref 256), (1, vi x1), (2, vi x2), (3, vi x3), (4, vi x4), (5, vi x5)]) rfl (by decide) rfl ?_
            refine x_goto k212_133 (t := 80) rfl ?_
            refine x_ls (l := [(0, .ref 256), (1, vi x1), (2, vi x2), (3, vi x3), (4, vi x4), (5, vi x5), (6, vi (x6 + 1))]) (show ([0, 1, 2, 3, 4, 5, 6] : List Nat).Nodup from by decide) ⟨rfl, rfl, rfl, rfl, rfl, rfl, rfl, trivial⟩ ?_
            exact ih s1031 x1 x2 x3 x4 x5 (x6 + 1) x1000 x1001 hG_s1031 f_s1031 ⟨by omega, by omega⟩ ⟨by omega, by omega⟩ ⟨by omega, by omega⟩ ⟨by omega, by omega⟩ ⟨by omega, by omega⟩ ⟨by omega, by omega⟩ ⟨by omega, by omega⟩ ⟨by omega, by omega⟩ (by omega) (by omega) (by omega) (by omega) (by omega) (by omega) (by omega) FDb_s1031 (fun p p0 p1 => by rw [e_s1031]; exact (Decidable.em (p.toNat = x6.toNat)).elim (fun q => by rw [show p = x6 by omega, x_up_same]; exact ⟨fun _ => by omega, fun z => by omega⟩) (fun q => by rw [x_up_i q]; exact ⟨fun z => (w_4 p p0 p1).1 (by omega), fun z => (w_4 p p0 p1).2 (by omega)⟩)) w_5 (q1032).symm (q1033).symm (by omega) (by omega)
          · skip
            refine x_A k212_123 (fun _ => rfl) ?_
            refine x_goto k212_124 (t := 128) rfl ?_
            have e6_ : ((x6.toNat : Nat) : Int) = x6 := by omega
            have nv : liN s0 b a (x4 + 1) x6.toNat = z1018 + 1 := by rw [liN_s (by omega), pIf_y ⟨(w_5.resolve_right (fun q => by omega)).2, by rw [e6_]; exact (sh1.resolve_left (fun q => by omega)).2, by rw [e6_]; exact (sh2.resolve_right (fun q => by omega)).2⟩, ← ov]
            refine x_iadd k212_128 ?_
            refine x_top (fun z1035 e_z1035 => ?_)
            refine x_iast k212_129 (q := 291) (n := 40) ⟨by decide, rfl⟩ (by decide) ⟨by omega, by omega⟩ ?_
            refine x_nh (fun s1036 e_s1036 => ?_)
            have hG_s1036 : GI s1036 := by rw [e_s1036]; exact hG.up (show (-2147483648) ≤ z1035 ∧ z1035 ≤ 2147483647 from ⟨by omega, by omega⟩)
            have f_s1036 : FL [5312, 5376, 4123, 5440, 5504, 5568, 5632, 5696, 5760, 4150, 4151, 4152, 4153, 6336] s0 s1036 := by rw [e_s1036]; exact f.up (show 6336 ∈ [5312, 5376, 4123, 5440, 5504, 5568, 5632, 5696, 5760, 4150, 4151, 4152, 4153, 6336] from by decide)
            have q1037 : s1036 256 6 = x1000 := by rw [e_s1036, x_up_q (by decide)]; exact e_x1000.symm
            have q1038 : s1036 256 1 = x1001 := by rw [e_s1036, x_up_q (by decide)]; exact e_x1001.symm
            have q1039 : s1036 291 x6.toNat = z1035 := by rw [e_s1036]; exact x_up_same
            have FDb_s1036 : FdZ s1036 s0 b := by rw [e_s1036]; exact FdZ.up w_3 (show 6336 ∉ [5440, 5504, 5568, 5632, 5696, 5760] from by decide)
            refine x_iinc k212_130 (ls' := [(6, vi (x6 + 1)), (0, .ref 256), (1, vi x1), (2, vi x2), (3, vi x3), (4, vi x4), (5, vi x5)]) rfl (by decide) rfl ?_
            refine x_goto k212_133 (t := 80) rfl ?_
            refine x_ls (l := [(0, .ref 256), (1, vi x1), (2, vi x2), (3, vi x3), (4, vi x4), (5, vi x5), (6, vi (x6 + 1))]) (show ([0, 1, 2, 3, 4, 5, 6] : List Nat).Nodup from by decide) ⟨rfl, rfl, rfl, rfl, rfl, rfl, rfl, trivial⟩ ?_
            exact ih s1036 x1 x2 x3 x4 x5 (x6 + 1) x1000 x1001 hG_s1036 f_s1036 ⟨by omega, by omega⟩ ⟨by omega, by omega⟩ ⟨by omega, by omega⟩ ⟨by omega, by omega⟩ ⟨by omega, by omega⟩ ⟨by omega, by omega⟩ ⟨by omega, by omega⟩ ⟨by omega, by omega⟩ (by omega) (by omega) (by omega) (by omega) (by omega) (by omega) (by omega) FDb_s1036 (fun p p0 p1 => by rw [e_s1036]; exact (Decidable.em (p.toNat = x6.toNat)).elim (fun q => by rw [show p = x6 by omega, x_up_same]; exact ⟨fun _ => by omega, fun z => by omega⟩) (fun q => by rw [x_up_i q]; exact ⟨fun z => (w_4 p p0 p1).1 (by omega), fun z => (w_4 p p0 p1).2 (by omega)⟩)) w_5 (q1037).symm (q1038).symm (by omega) (by omega)
set_option maxHeartbeats 8000000 in
theorem L_W_X11_likely_256_58 (s0 : xS) (hJ0 : J s0) (hG0 : GI s0) (a : Int) (b_a : (-2147483648) ≤ a ∧ a ≤ 2147483647) (b : Int) (b_b : (-2147483648) ≤ b ∧ b ≤ 2147483647) (d : Int) (b_d : (-2147483648) ≤ d ∧ d ≤ 2147483647) (pR : R1 s0) (pT : TR s0) (pG1 : G1 s0) (pG3 : G3 s0) (pY : Y1 s0)  : ∀ (n : Nat) (s : xS) (x1 : Int) (x2 : Int) (x3 : Int) (x4 : Int) (x1000 : Int) (x1001 : Int) (hG : GI s) (f : FL [5312, 5376, 4123, 5440, 5504, 5568, 5632, 5696, 5760, 4150, 4151, 4152, 4153, 6336] s0 s) (b_x1 : 0 ≤ x1 ∧ x1 ≤ 39) (b_x2 : 0 ≤ x2 ∧ x2 ≤ 9) (b_x3 : (-2147483648) ≤ x3 ∧ x3 ≤ 2147483647) (b_x4 : 0 ≤ x4 ∧ x4 ≤ 40) (b_x1000 : 0 ≤ x1000 ∧ x1000 ≤ 40) (b_x1001 : 1 ≤ x1001 ∧ x1001 ≤ 40) (r_1_1001 : x1 ≤ x1001 + 0) (w_0 : x1 = a ∧ x2 = b ∧ x3 = d ∧ x1000 = s0 256 6 ∧ x1001 = s0 256 1) (w_1 : (0 ≤ a ∧ a < s0 256 1) ∧ 0 ≤ b ∧ b ≤ s0 256 0) (w_2 : x4 ≤ x1001) (w_3 : FdZ s s0 b) (w_4 : ∀ p : Int, 0 ≤ p → p < s0 256 6 → s 291 p.toNat = liN s0 b a x4 p.toNat) (e_x1000 : x1000 = s 256 6) (e_x1001 : x1001 = s 256 1)  (hm : (40 - x4) < (n : Int)), xe none 212 58 [(0, .ref 256), (1, vi x1), (2, vi x2), (3, vi x3), (4, vi x4)] [] s 0 0 (fun s' v => GI s' ∧ FL [5312, 5376, 4123, 5440, 5504, 5568, 5632, 5696, 5760, 4150, 4151, 4152, 4153, 6336] s0 s' ∧ ∃ z, v = some (vi z) ∧ ((-2147483648) ≤ z ∧ z ≤ 2147483647) ∧ (LkS s0 a b d z)) := by
  intro n
  induction n with
  | zero => intro s x1 x2 x3 x4 x1000 x1001 hG f b_x1 b_x2 b_x3 b_x4 b_x1000 b_x1001 r_1_1001 w_0 w_1 w_2 w_3 w_4 e_x1000 e_x1001  hm; exfalso; omega
  | succ n ih =>
    intro s x1 x2 x3 x4 x1000 x1001 hG f b_x1 b_x2 b_x3 b_x4 b_x1000 b_x1001 r_1_1001 w_0 w_1 w_2 w_3 w_4 e_x1000 e_x1001  hm
    have t14_ := pT.1.2.1
    have g46_ := pG3.1
    have g14_ : (1 : Int) ≤ s0 1 4 ∧ s0 1 4 ≤ 40 := hG0 1 4
    have g6_ : (0 : Int) ≤ s0 256 6 ∧ s0 256 6 ≤ 40 := hG0 256 6
    refine x_A k212_58 (fun _ => rfl) ?_
    refine x_A k212_60 (fun _ => rfl) ?_
    refine x_getI k212_61 (f := 1) rfl (q := 256) (n := 62) (kd := 15) ⟨by decide, rfl⟩ (by decide) rfl ?_
    refine x_rw (e_x1001.symm) ?_
    refine x_ic_ge k212_64 (t := 142) rfl ⟨by omega, by omega⟩ ⟨by omega, by omega⟩ (fun c1040 => ?_) (fun c1040 => ?_)
    · skip
      refine x_A k212_142 (fun _ => rfl) ?_
      refine x_istore k212_143 (ls' := [(4, vi 0), (0, .ref 256), (1, vi x1), (2, vi x2), (3, vi x3)]) (by decide) rfl ?_
      refine x_bipush k212_145 (by decide +kernel) ?_
      refine x_istore k212_147 (ls' := [(5, vi 40), (4, vi 0), (0, .ref 256), (1, vi x1), (2, vi x2), (3, vi x3)]) (by decide) rfl ?_
      refine x_ls (l := [(0, .ref 256), (1, vi x1), (2, vi x2), (3, vi x3), (4, vi 0), (5, vi 40)]) (show ([0, 1, 2, 3, 4, 5] : List Nat).Nodup from by decide) ⟨rfl, rfl, rfl, rfl, rfl, rfl, trivial⟩ ?_
      exact L_W_X11_likely_256_149 s0 hJ0 hG0 a b_a b b_b d b_d pR pT pG1 pG3 pY  (((40 - 0) + 1 : Int)).toNat s x1 x2 x3 0 40 x1000 x1001 hG f ⟨by omega, by omega⟩ ⟨by omega, by omega⟩ ⟨by omega, by omega⟩ ⟨by omega, by omega⟩ ⟨by omega, by omega⟩ ⟨by omega, by omega⟩ ⟨by omega, by omega⟩ (by omega) (by omega) (by omega) (by omega) (by omega) (by omega) w_3 (fun p p0 p1 => by rw [show s0 1 4 = x4 by omega]; exact w_4 p p0 p1) (lkW_0 (fun q _ => by have q9 := liN_b (s := s0) (e := b) (m := a) (n := s0 1 4) (p := q) (by omega); omega)) (e_x1000.symm).symm (e_x1001.symm).symm  (by omega)
    · skip
      refine x_A k212_67 (fun _ => rfl) ?_
      refine x_A k212_68 (fun _ => rfl) ?_
      refine x_A k212_69 (fun _ => rfl) ?_
      refine x_A k212_71 (fun _ => rfl) ?_
      have ve_ : VE s s0 := FL.ve f hG0 (by decide)
      have t14_ := pT.1.2.1
      have g506_ := pG1.1
      have k10_ := f 256 10 (show 4107 ∉ [5312, 5376, 4123, 5440, 5504, 5568, 5632, 5696, 5760, 4150, 4151, 4152, 4153, 6336] from by decide)
      have k6_ := f 256 6 (show 4103 ∉ [5312, 5376, 4123, 5440, 5504, 5568, 5632, 5696, 5760, 4150, 4151, 4152, 4153, 6336] from by decide)
      have k46_ := f 46 3 (show 452 ∉ [5312, 5376, 4123, 5440, 5504, 5568, 5632, 5696, 5760, 4150, 4151, 4152, 4153, 6336] from by decide)
      have k1_ := f 256 1 (show 4098 ∉ [5312, 5376, 4123, 5440, 5504, 5568, 5632, 5696, 5760, 4150, 4151, 4152, 4153, 6336] from by decide)
      have k506_ := f 50 6 (show 711 ∉ [5312, 5376, 4123, 5440, 5504, 5568, 5632, 5696, 5760, 4150, 4151, 4152, 4153, 6336] from by decide)
      refine x_callV k212_72 (y := 210) (n := 3) (w0 := 0) (w1 := 3) (as := [vi x1, vi x4, vi x2]) (rest := []) (by decide +kernel) (q := 256) (nq := 62) (kq := 15) ⟨by decide, rfl⟩ rfl rfl rfl rfl (xe_mono (E_X11_goesAlong_256 s hG (hJ0.fl f (by decide)) x1 ⟨by omega, by omega⟩ x4 ⟨by omega, by omega⟩ x2 ⟨by omega, by omega⟩ (pT.fl (hG0 256 1).2 f (by decide)) (pG3.fl f (by decide)) (pY.fl f (by decide)) (by rw [show x2 = b by omega]; exact FdZ.ve w_3 ve_.sy k10_.symm k6_.symm (by omega)) (by omega)) ?_)
      rintro s1042 v ⟨hG_s1042, t_s1042, z1041, rfl, g_z1041, xp_z1041⟩
      have f_s1042 : FL [5312, 5376, 4123, 5440, 5504, 5568, 5632, 5696, 5760, 4150, 4151, 4152, 4153, 6336] s0 s1042 := f.tr t_s1042 (by decide)
      have q1043 : s1042 256 6 = x1000 := (t_s1042 256 6 (show 4103 ∉ [4150, 4151, 4152, 4153] from by decide)).trans e_x1000.symm
      have q1044 : s1042 256 1 = x1001 := (t_s1042 256 1 (show 4098 ∉ [4150, 4151, 4152, 4153] from by decide)).trans e_x1001.symm
      have FDb_s1042 : FdZ s1042 s0 b := FdZ.fl w_3 t_s1042 (by decide)
      show xe none 212 75 [(0, .ref 256), (1, vi x1), (2, vi x2), (3, vi x3), (4, vi x4)] [vi z1041] s1042 0 0 _
      have al := xp_z1041
      rw [show x2 = b by omega, ve_.ag k46_, show x1 = a by omega] at al
      refine x_istore k212_75 (ls' := [(5, vi z1041), (0, .ref 256), (1, vi x1), (2, vi x2), (3, vi x3), (4, vi x4)]) (by decide) rfl ?_
      refine x_A k212_77 (fun _ => rfl) ?_
      refine x_istore k212_78 (ls' := [(6, vi 0), (5, vi z1041), (0, .ref 256), (1, vi x1), (2, vi x2), (3, vi x3), (4, vi x4)]) (by decide) rfl ?_
      refine x_ls (l := [(0, .ref 256), (1, vi x1), (2, vi x2), (3, vi x3), (4, vi x4), (5, vi z1041), (6, vi 0)]) (show ([0, 1, 2, 3, 4, 5, 6] : List Nat).Nodup from by decide) ⟨rfl, rfl, rfl, rfl, rfl, rfl, rfl, trivial⟩ ?_
      exact L_W_X11_likely_256_80 s0 hJ0 hG0 a b_a b b_b d b_d pR pT pG1 pG3 pY n (fun s x1 x2 x3 x4 x1000 x1001 hG f b_x1 b_x2 b_x3 b_x4 b_x1000 b_x1001 r_1_1001 w_0 w_1 w_2 w_3 w_4 e_x1000 e_x1001 hm => ih s x1 x2 x3 x4 x1000 x1001 hG f b_x1 b_x2 b_x3 b_x4 b_x1000 b_x1001 r_1_1001 w_0 w_1 w_2 w_3 w_4 e_x1000 e_x1001  hm) (((40 - 0) + 1 : Int)).toNat s1042 x1 x2 x3 x4 z1041 0 x1000 x1001 hG_s1042 f_s1042 ⟨by omega, by omega⟩ ⟨by omega, by omega⟩ ⟨by omega, by omega⟩ ⟨by omega, by omega⟩ ⟨by omega, by omega⟩ ⟨by omega, by omega⟩ ⟨by omega, by omega⟩ ⟨by omega, by omega⟩ (by omega) (by omega) (by omega) (by omega) (by omega) (by omega) (by omega) FDb_s1042 (fun p p0 p1 => ⟨fun q => by omega, fun _ => by rw [t_s1042 291 _ (show 6336 ∉ _ from by decide)]; exact w_4 p p0 p1⟩) al (q1043).symm (q1044).symm (by omega) (by omega)
set_option maxHeartbeats 8000000 in
theorem L_W_X11_likely_256_32 (s0 : xS) (hJ0 : J s0) (hG0 : GI s0) (a : Int) (b_a : (-2147483648) ≤ a ∧ a ≤ 2147483647) (b : Int) (b_b : (-2147483648) ≤ b ∧ b ≤ 2147483647) (d : Int) (b_d : (-2147483648) ≤ d ∧ d ≤ 2147483647) (pR : R1 s0) (pT : TR s0) (pG1 : G1 s0) (pG3 : G3 s0) (pY : Y1 s0)  : ∀ (n : Nat) (s : xS) (x1 : Int) (x2 : Int) (x3 : Int) (x4 : Int) (x1000 : Int) (x1001 : Int) (hG : GI s) (f : FL [5312, 5376, 4123, 5440, 5504, 5568, 5632, 5696, 5760, 4150, 4151, 4152, 4153, 6336] s0 s) (b_x1 : 0 ≤ x1 ∧ x1 ≤ 39) (b_x2 : 0 ≤ x2 ∧ x2 ≤ 9) (b_x3 : (-2147483648) ≤ x3 ∧ x3 ≤ 2147483647) (b_x4 : 0 ≤ x4 ∧ x4 ≤ 40) (b_x1000 : 0 ≤ x1000 ∧ x1000 ≤ 40) (b_x1001 : 1 ≤ x1001 ∧ x1001 ≤ 40) (r_4_1000 : x4 ≤ x1000 + 0) (r_1_1001 : x1 ≤ x1001 + 0) (w_0 : x1 = a ∧ x2 = b ∧ x3 = d ∧ x1000 = s0 256 6 ∧ x1001 = s0 256 1) (w_1 : (0 ≤ a ∧ a < s0 256 1) ∧ 0 ≤ b ∧ b ≤ s0 256 0) (w_2 : x4 ≤ x1000) (w_3 : FdZ s s0 b) (w_4 : ∀ p : Int, 0 ≤ p → p < x4 → s 291 p.toNat = 0) (e_x1000 : x1000 = s 256 6) (e_x1001 : x1001 = s 256 1)  (hm : (40 - x4) < (n : Int)), xe none 212 32 [(0, .ref 256), (1, vi x1), (2, vi x2), (3, vi x3), (4, vi x4)] [] s 0 0 (fun s' v => GI s' ∧ FL [5312, 5376, 4123, 5440, 5504, 5568, 5632, 5696, 5760, 4150, 4151, 4152, 4153, 6336] s0 s' ∧ ∃ z, v = some (vi z) ∧ ((-2147483648) ≤ z ∧ z ≤ 2147483647) ∧ (LkS s0 a b d z)) := by
  intro n
  induction n with
  | zero => intro s x1 x2 x3 x4 x1000 x1001 hG f b_x1 b_x2 b_x3 b_x4 b_x1000 b_x1001 r_4_1000 r_1_1001 w_0 w_1 w_2 w_3 w_4 e_x1000 e_x1001  hm; exfalso; omega
  | succ n ih =>
    intro s x1 x2 x3 x4 x1000 x1001 hG f b_x1 b_x2 b_x3 b_x4 b_x1000 b_x1001 r_4_1000 r_1_1001 w_0 w_1 w_2 w_3 w_4 e_x1000 e_x1001  hm
    refine x_A k212_32 (fun _ => rfl) ?_
    refine x_A k212_34 (fun _ => rfl) ?_
    refine x_getI k212_35 (f := 6) rfl (q := 256) (n := 62) (kd := 15) ⟨by decide, rfl⟩ (by decide) rfl ?_
    refine x_rw (e_x1000.symm) ?_
    refine x_ic_ge k212_38 (t := 55) rfl ⟨by omega, by omega⟩ ⟨by omega, by omega⟩ (fun c1045 => ?_) (fun c1045 => ?_)
    · skip
      refine x_A k212_55 (fun _ => rfl) ?_
      refine x_istore k212_56 (ls' := [(4, vi 0), (0, .ref 256), (1, vi x1), (2, vi x2), (3, vi x3)]) (by decide) rfl ?_
      refine x_ls (l := [(0, .ref 256), (1, vi x1), (2, vi x2), (3, vi x3), (4, vi 0)]) (show ([0, 1, 2, 3, 4] : List Nat).Nodup from by decide) ⟨rfl, rfl, rfl, rfl, rfl, trivial⟩ ?_
      exact L_W_X11_likely_256_58 s0 hJ0 hG0 a b_a b b_b d b_d pR pT pG1 pG3 pY  (((40 - 0) + 1 : Int)).toNat s x1 x2 x3 0 x1000 x1001 hG f ⟨by omega, by omega⟩ ⟨by omega, by omega⟩ ⟨by omega, by omega⟩ ⟨by omega, by omega⟩ ⟨by omega, by omega⟩ ⟨by omega, by omega⟩ (by omega) (by omega) (by omega) (by omega) w_3 (fun p p0 p1 => by rw [liN_0]; exact w_4 p p0 (by omega)) (e_x1000.symm).symm (e_x1001.symm).symm  (by omega)
    · skip
      refine x_A k212_41 (fun _ => rfl) ?_
      refine x_getR k212_42 (f := 57) rfl (q := 256) (n := 62) (kd := 15) ⟨by decide, rfl⟩ (q2 := 291) (by decide) rfl ?_
      refine x_A k212_45 (fun _ => rfl) ?_
      refine x_A k212_47 (fun _ => rfl) ?_
      refine x_iast k212_48 (q := 291) (n := 40) ⟨by decide, rfl⟩ (by decide) ⟨by omega, by omega⟩ ?_
      refine x_nh (fun s1046 e_s1046 => ?_)
      have hG_s1046 : GI s1046 := by rw [e_s1046]; exact hG.up (show (-2147483648) ≤ 0 ∧ 0 ≤ 2147483647 from ⟨by omega, by omega⟩)
      have f_s1046 : FL [5312, 5376, 4123, 5440, 5504, 5568, 5632, 5696, 5760, 4150, 4151, 4152, 4153, 6336] s0 s1046 := by rw [e_s1046]; exact f.up (show 6336 ∈ [5312, 5376, 4123, 5440, 5504, 5568, 5632, 5696, 5760, 4150, 4151, 4152, 4153, 6336] from by decide)
      have q1047 : s1046 256 6 = x1000 := by rw [e_s1046, x_up_q (by decide)]; exact e_x1000.symm
      have q1048 : s1046 256 1 = x1001 := by rw [e_s1046, x_up_q (by decide)]; exact e_x1001.symm
      have q1049 : s1046 291 x4.toNat = 0 := by rw [e_s1046]; exact x_up_same
      have FDb_s1046 : FdZ s1046 s0 b := by rw [e_s1046]; exact FdZ.up w_3 (show 6336 ∉ [5440, 5504, 5568, 5632, 5696, 5760] from by decide)
      refine x_iinc k212_49 (ls' := [(4, vi (x4 + 1)), (0, .ref 256), (1, vi x1), (2, vi x2), (3, vi x3)]) rfl (by decide) rfl ?_
      refine x_goto k212_52 (t := 32) rfl ?_
      refine x_ls (l := [(0, .ref 256), (1, vi x1), (2, vi x2), (3, vi x3), (4, vi (x4 + 1))]) (show ([0, 1, 2, 3, 4] : List Nat).Nodup from by decide) ⟨rfl, rfl, rfl, rfl, rfl, trivial⟩ ?_
      exact ih s1046 x1 x2 x3 (x4 + 1) x1000 x1001 hG_s1046 f_s1046 ⟨by omega, by omega⟩ ⟨by omega, by omega⟩ ⟨by omega, by omega⟩ ⟨by omega, by omega⟩ ⟨by omega, by omega⟩ ⟨by omega, by omega⟩ (by omega) (by omega) (by omega) (by omega) (by omega) FDb_s1046 (fun p p0 p1 => by rw [e_s1046]; exact (Decidable.em (p.toNat = x4.toNat)).elim (fun q => by rw [q]; exact x_up_same) (fun q => by rw [x_up_i q]; exact w_4 p p0 (by omega))) (q1047).symm (q1048).symm  (by omega)
set_option maxHeartbeats 8000000 in
theorem W_X11_likely_256 (s0 : xS) (hG0 : GI s0) (hJ0 : J s0) (a : Int) (b_a : (-2147483648) ≤ a ∧ a ≤ 2147483647) (b : Int) (b_b : (-2147483648) ≤ b ∧ b ≤ 2147483647) (d : Int) (b_d : (-2147483648) ≤ d ∧ d ≤ 2147483647) (p_256_1 : 1 ≤ s0 256 1 ∧ s0 256 1 ≤ 40) (p_256_6 : 0 ≤ s0 256 6 ∧ s0 256 6 ≤ 40) (p_256_0 : 0 ≤ s0 256 0 ∧ s0 256 0 ≤ 9) (pR : R1 s0) (pT : TR s0) (pG1 : G1 s0) (pG3 : G3 s0) (pY : Y1 s0) : xe none 212 0 (lv_args 0 [.ref 256, vi a, vi b, vi d]) [] s0 0 0 (fun s' v => GI s' ∧ FL [5312, 5376, 4123, 5440, 5504, 5568, 5632, 5696, 5760, 4150, 4151, 4152, 4153, 6336] s0 s' ∧ ∃ z, v = some (vi z) ∧ ((-2147483648) ≤ z ∧ z ≤ 2147483647) ∧ (LkS s0 a b d z)) := by
  have f0 : FL [5312, 5376, 4123, 5440, 5504, 5568, 5632, 5696, 5760, 4150, 4151, 4152, 4153, 6336] s0 s0 := FL.rf
  show xe none 212 0 [(0, .ref 256), (1, vi a), (2, vi b), (3, vi d)] [] s0 0 0 _
  obtain ⟨z1050, e_z1050⟩ : ∃ z, z = s0 256 1 := ⟨_, rfl⟩
  have g_z1050 : (1 : Int) ≤ s0 256 1 ∧ s0 256 1 ≤ 40 := hG0 256 1
  obtain ⟨z1051, e_z1051⟩ : ∃ z, z = s0 256 6 := ⟨_, rfl⟩
  have g_z1051 : (0 : Int) ≤ s0 256 6 ∧ s0 256 6 ≤ 40 := hG0 256 6
  obtain ⟨z1052, e_z1052⟩ : ∃ z, z = s0 256 0 := ⟨_, rfl⟩
  have g_z1052 : (0 : Int) ≤ s0 256 0 ∧ s0 256 0 ≤ 9 := hG0 256 0
  refine x_A k212_0 (fun _ => rfl) ?_
  refine x_A k212_1 (fun _ => rfl) ?_
  refine x_callV k212_2 (y := 137) (n := 1) (w0 := 0) (w1 := 1) (as := [vi a]) (rest := []) (by decide +kernel) (q := 256) (nq := 62) (kq := 15) ⟨by decide, rfl⟩ rfl rfl rfl rfl (xe_mono (C_X11_isMark_256 s0 hG0 a ⟨by omega, by omega⟩) ?_)
  rintro s1054 v ⟨h_s1054, z1053, rfl, hz_z1053⟩
  rw [h_s1054]
  rcases hz_z1053 with ⟨c_z1053, e_z1053⟩ | ⟨c_z1053, e_z1053⟩
  · rw [e_z1053]
    show xe none 212 5 [(0, .ref 256), (1, vi a), (2, vi b), (3, vi d)] [vi 1] s0 0 0 _
    refine x_if_ne k212_5 (t := 12) rfl ⟨by omega, by omega⟩ (fun c1055 => ?_) (fun c1055 => by exfalso; omega)
    refine x_A k212_12 (fun _ => rfl) ?_
    refine x_A k212_13 (fun _ => rfl) ?_
    refine x_callV k212_14 (y := 138) (n := 1) (w0 := 0) (w1 := 1) (as := [vi b]) (rest := []) (by decide +kernel) (q := 256) (nq := 62) (kq := 15) ⟨by decide, rfl⟩ rfl rfl rfl rfl (xe_mono (C_X11_isEdition_256 s0 hG0 b ⟨by omega, by omega⟩) ?_)
    rintro s1057 v ⟨h_s1057, z1056, rfl, hz_z1056⟩
    rw [h_s1057]
    rcases hz_z1056 with ⟨c_z1056, e_z1056⟩ | ⟨c_z1056, e_z1056⟩
    · rw [e_z1056]
      show xe none 212 17 [(0, .ref 256), (1, vi a), (2, vi b), (3, vi d)] [vi 1] s0 0 0 _
      refine x_if_ne k212_17 (t := 24) rfl ⟨by omega, by omega⟩ (fun c1058 => ?_) (fun c1058 => by exfalso; omega)
      refine x_A k212_24 (fun _ => rfl) ?_
      refine x_A k212_25 (fun _ => rfl) ?_
      refine x_callV k212_26 (y := 168) (n := 1) (w0 := 0) (w1 := 1) (as := [vi b]) (rest := []) (by decide +kernel) (q := 256) (nq := 62) (kq := 15) ⟨by decide, rfl⟩ rfl rfl rfl rfl (xe_mono (E_X11_find_256 s0 hG0 (hJ0.fl f0 (by decide)) b ⟨by omega, by omega⟩ (pR.fl f0 (by decide)) (pT.fl (hG0 256 1).2 f0 (by decide)) (pG1.fl f0 (by decide)) (pG3.fl f0 (by decide))) ?_)
      rintro s1060 v ⟨hG_s1060, t_s1060, rfl, xp_z1059⟩
      have f_s1060 : FL [5312, 5376, 4123, 5440, 5504, 5568, 5632, 5696, 5760, 4150, 4151, 4152, 4153, 6336] s0 s1060 := f0.tr t_s1060 (by decide)
      have q1061 : s1060 256 1 = z1050 := (t_s1060 256 1 (show 4098 ∉ [5312, 5376, 4123, 5440, 5504, 5568, 5632, 5696, 5760] from by decide)).trans e_z1050.symm
      have q1062 : s1060 256 6 = z1051 := (t_s1060 256 6 (show 4103 ∉ [5312, 5376, 4123, 5440, 5504, 5568, 5632, 5696, 5760] from by decide)).trans e_z1051.symm
      have q1063 : s1060 256 0 = z1052 := (t_s1060 256 0 (show 4097 ∉ [5312, 5376, 4123, 5440, 5504, 5568, 5632, 5696, 5760] from by decide)).trans e_z1052.symm
      show xe none 212 29 [(0, .ref 256), (1, vi a), (2, vi b), (3, vi d)] [] s1060 0 0 _
      have e1_ : s1060 256 1 = s0 256 1 := f_s1060 256 1 (show 4098 ∉ [5312, 5376, 4123, 5440, 5504, 5568, 5632, 5696, 5760, 4150, 4151, 4152, 4153, 6336] from by decide)
      have e6_ : s1060 256 6 = s0 256 6 := f_s1060 256 6 (show 4103 ∉ [5312, 5376, 4123, 5440, 5504, 5568, 5632, 5696, 5760, 4150, 4151, 4152, 4153, 6336] from by decide)
      have e10_ : s1060 256 10 = s0 256 10 := f_s1060 256 10 (show 4107 ∉ [5312, 5376, 4123, 5440, 5504, 5568, 5632, 5696, 5760, 4150, 4151, 4152, 4153, 6336] from by decide)
      refine x_A k212_29 (fun _ => rfl) ?_
      refine x_istore k212_30 (ls' := [(4, vi 0), (0, .ref 256), (1, vi a), (2, vi b), (3, vi d)]) (by decide) rfl ?_
      refine x_ls (l := [(0, .ref 256), (1, vi a), (2, vi b), (3, vi d), (4, vi 0)]) (show ([0, 1, 2, 3, 4] : List Nat).Nodup from by decide) ⟨rfl, rfl, rfl, rfl, rfl, trivial⟩ ?_
      exact L_W_X11_likely_256_32 s0 hJ0 hG0 a b_a b b_b d b_d pR pT pG1 pG3 pY  (((40 - 0) + 1 : Int)).toNat s1060 a b d 0 z1051 z1050 hG_s1060 f_s1060 ⟨by omega, by omega⟩ ⟨by omega, by omega⟩ ⟨by omega, by omega⟩ ⟨by omega, by omega⟩ ⟨by omega, by omega⟩ ⟨by omega, by omega⟩ (by omega) (by omega) (by omega) (by omega) (by omega) xp_z1059 (fun p p0 p1 => by omega) (q1062).symm (q1061).symm  (by omega)
    · rw [e_z1056]
      show xe none 212 17 [(0, .ref 256), (1, vi a), (2, vi b), (3, vi d)] [vi 0] s0 0 0 _
      refine x_if_ne k212_17 (t := 24) rfl ⟨by omega, by omega⟩ (fun c1064 => by exfalso; omega) (fun c1064 => ?_)
      refine x_sipush k212_20 (by decide +kernel) ?_
      exact x_iret k212_23 rfl ⟨hG0, f0, (-1002), rfl, ⟨by omega, by omega⟩, (by have q0 := pT.1.1; have q2 := pT.1.2.1; unfold LkS; exact Or.inr (Or.inl ⟨by omega, by omega, rfl⟩))⟩
  · rw [e_z1053]
    show xe none 212 5 [(0, .ref 256), (1, vi a), (2, vi b), (3, vi d)] [vi 0] s0 0 0 _
    refine x_if_ne k212_5 (t := 12) rfl ⟨by omega, by omega⟩ (fun c1065 => by exfalso; omega) (fun c1065 => ?_)
    refine x_sipush k212_8 (by decide +kernel) ?_
    exact x_iret k212_11 rfl ⟨hG0, f0, (-1001), rfl, ⟨by omega, by omega⟩, (by have q0 := pT.1.1; have q2 := pT.1.2.1; unfold LkS; exact Or.inl ⟨by omega, rfl⟩)⟩
