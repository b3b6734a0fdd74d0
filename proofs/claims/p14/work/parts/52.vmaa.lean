set_option maxHeartbeats 8000000 in
theorem L_W_X11_count_256_57 (s0 : xS) (hJ0 : J s0) (hG0 : GI s0) (a : Int) (b_a : (-2147483648) ≤ a ∧ a ≤ 2147483647) (pR : R1 s0) (pT : TR s0) (pG1 : G1 s0) (pG3 : G3 s0) (pX : X1 s0) (pW : W1 s0) (pS : s0 231 3 = s0 256 58)  : ∀ (n : Nat) (s : xS) (x1 : Int) (x2 : Int) (x3 : Int) (x4 : Int) (x5 : Int) (x6 : Int) (x1000 : Int) (x1001 : Int) (hG : GI s) (f : FL [5312, 5376, 4123, 5440, 5504, 5568, 5632, 5696, 5760] s0 s) (b_x1 : (-2147483648) ≤ x1 ∧ x1 ≤ 2147483647) (b_x2 : 0 ≤ x2 ∧ x2 ≤ 40) (b_x3 : 0 ≤ x3 ∧ x3 ≤ 127) (b_x4 : 0 ≤ x4 ∧ x4 ≤ 127) (b_x5 : 0 ≤ x5 ∧ x5 ≤ 127) (b_x6 : 0 ≤ x6 ∧ x6 ≤ 120) (b_x1000 : 1 ≤ x1000 ∧ x1000 ≤ 40) (b_x1001 : 0 ≤ x1001 ∧ x1001 ≤ 120) (r_5_6 : x5 ≤ x6 + 0) (r_4_6 : x4 ≤ x6 + 0) (r_3_6 : x3 ≤ x6 + 0) (r_6_1001 : x6 ≤ x1001 + 0) (w_0 : x1 = a ∧ x1001 = s0 256 10 ∧ x6 ≤ x1001 ∧ x3 ≤ x6 ∧ x4 ≤ x6 ∧ x5 ≤ x6) (w_1 : FdZ s s0 (s0 0 10)) (w_2 : x2 = ctp (fun k => thC s0 (s0 0 10) (k : Int)) (s0 256 1).toNat) (w_3 : x3 = ctp (fun k => wrC s0 (k : Int) ≠ 0) x6.toNat) (w_4 : x4 = ctp (fun k => loC s0 (s0 0 10) (k : Int)) x6.toNat) (w_5 : a = 7 → x5 = ctp (fun k => laC s0 (s0 0 10) (k : Int)) x6.toNat) (e_x1000 : x1000 = s 256 1) (e_x1001 : x1001 = s 256 10)  (hm : (120 - x6) < (n : Int)), xe none 174 57 [(0, .ref 256), (1, vi x1), (2, vi x2), (3, vi x3), (4, vi x4), (5, vi x5), (6, vi x6)] [] s 0 0 (fun s' v => GI s' ∧ FL [5312, 5376, 4123, 5440, 5504, 5568, 5632, 5696, 5760] s0 s' ∧ ∃ z, v = some (vi z) ∧ ((-2147483648) ≤ z ∧ z ≤ 2147483647) ∧ (CoS s0 a z)) := by
  intro n
  induction n with
  | zero => intro s x1 x2 x3 x4 x5 x6 x1000 x1001 hG f b_x1 b_x2 b_x3 b_x4 b_x5 b_x6 b_x1000 b_x1001 r_5_6 r_4_6 r_3_6 r_6_1001 w_0 w_1 w_2 w_3 w_4 w_5 e_x1000 e_x1001  hm; exfalso; omega
  | succ n ih =>
    intro s x1 x2 x3 x4 x5 x6 x1000 x1001 hG f b_x1 b_x2 b_x3 b_x4 b_x5 b_x6 b_x1000 b_x1001 r_5_6 r_4_6 r_3_6 r_6_1001 w_0 w_1 w_2 w_3 w_4 w_5 e_x1000 e_x1001  hm
    refine x_A k174_57 (fun _ => rfl) ?_
    refine x_A k174_59 (fun _ => rfl) ?_
    refine x_getI k174_60 (f := 10) rfl (q := 256) (n := 62) (kd := 15) ⟨by decide, rfl⟩ (by decide) rfl ?_
    refine x_rw (e_x1001.symm) ?_
    refine x_ic_ge k174_63 (t := 139) rfl (by first | exact x_rb b_x6 rfl rfl | exact ⟨by omega, by omega⟩) (by first | exact x_rb b_x1001 rfl rfl | exact ⟨by omega, by omega⟩) (fun c1850 => ?_) (fun c1850 => ?_)
    · skip
      refine x_A k174_139 (fun _ => rfl) ?_
      have c1851 : x1 = 0 ∨ x1 = 1 ∨ x1 = 2 ∨ x1 = 3 ∨ x1 = 4 ∨ x1 = 5 ∨ x1 = 6 ∨ x1 = 7 ∨ x1 = 8 ∨ x1 = 9 ∨ x1 = 10 ∨ x1 = 11 ∨ x1 = 12 ∨ ¬ (0 ≤ x1 ∧ x1 ≤ 12) := by omega
      rcases c1851 with c1851 | c1851 | c1851 | c1851 | c1851 | c1851 | c1851 | c1851 | c1851 | c1851 | c1851 | c1851 | c1851 | c1851
      · rw [c1851]
        refine x_B k174_140 rfl (fun _ => rfl) (fun _ => rfl) (fun _ _ => rfl) ?_
        show xe none 174 208 [(0, .ref 256), (1, vi 0), (2, vi x2), (3, vi x3), (4, vi x4), (5, vi x5), (6, vi x6)] [] s 0 0 _
        refine x_A k174_208 (fun _ => rfl) ?_
        refine x_getI k174_209 (f := 0) rfl (q := 256) (n := 62) (kd := 15) ⟨by decide, rfl⟩ (by decide) rfl ?_
        refine x_top (fun z1852 e_z1852 => ?_)
        have g_z1852 : (0 : Int) ≤ s 256 0 ∧ s 256 0 ≤ 9 := hG 256 0
        exact x_iret k174_212 rfl ⟨hG, f, z1852, rfl, (by first | exact x_rbe e_z1852 g_z1852 rfl rfl | exact x_rb g_z1852 rfl rfl | exact ⟨by omega, by omega⟩), (Or.inr ⟨by omega, (by have q1 := pG1.1; have q0 := pT.1.1; have q2 := pT.1.2.1; have q3 := pG3.1; obtain ⟨x1_, -, x3_, x4_, -⟩ := pX; have w1_ := pW.1; have gg_ : (0 : Int) ≤ s0 50 6 ∧ s0 50 6 ≤ 120 := hG0 50 6; (try rw [show a = 0 by omega]); have ef_ := f 256 0 (show 4097 ∉ [5312, 5376, 4123, 5440, 5504, 5568, 5632, 5696, 5760] from by decide); show z1852 = coS s0 0; unfold coS; rw [if_pos rfl]; omega)⟩)⟩
      · rw [c1851]
        refine x_B k174_140 rfl (fun _ => rfl) (fun _ => rfl) (fun _ _ => rfl) ?_
        show xe none 174 213 [(0, .ref 256), (1, vi 1), (2, vi x2), (3, vi x3), (4, vi x4), (5, vi x5), (6, vi x6)] [] s 0 0 _
        refine x_A k174_213 (fun _ => rfl) ?_
        refine x_getI k174_214 (f := 1) rfl (q := 256) (n := 62) (kd := 15) ⟨by decide, rfl⟩ (by decide) rfl ?_
        refine x_rw (e_x1000.symm) ?_
        exact x_iret k174_217 rfl ⟨hG, f, x1000, rfl, (by first | exact x_rb b_x1000 rfl rfl | exact ⟨by omega, by omega⟩), (Or.inr ⟨by omega, (by have q1 := pG1.1; have q0 := pT.1.1; have q2 := pT.1.2.1; have q3 := pG3.1; obtain ⟨x1_, -, x3_, x4_, -⟩ := pX; have w1_ := pW.1; have gg_ : (0 : Int) ≤ s0 50 6 ∧ s0 50 6 ≤ 120 := hG0 50 6; (try rw [show a = 1 by omega]); have ef_ := f 256 1 (show 4098 ∉ [5312, 5376, 4123, 5440, 5504, 5568, 5632, 5696, 5760] from by decide); show x1000 = coS s0 1; unfold coS; rw [if_neg (by decide), if_pos rfl]; omega)⟩)⟩
      · rw [c1851]
        refine x_B k174_140 rfl (fun _ => rfl) (fun _ => rfl) (fun _ _ => rfl) ?_
        show xe none 174 218 [(0, .ref 256), (1, vi 2), (2, vi x2), (3, vi x3), (4, vi x4), (5, vi x5), (6, vi x6)] [] s 0 0 _
        refine x_A k174_218 (fun _ => rfl) ?_
        exact x_iret k174_219 rfl ⟨hG, f, x2, rfl, (by first | exact x_rb b_x2 rfl rfl | exact ⟨by omega, by omega⟩), (Or.inr ⟨by omega, (by have q1 := pG1.1; have q0 := pT.1.1; have q2 := pT.1.2.1; have q3 := pG3.1; obtain ⟨x1_, -, x3_, x4_, -⟩ := pX; have w1_ := pW.1; have gg_ : (0 : Int) ≤ s0 50 6 ∧ s0 50 6 ≤ 120 := hG0 50 6; (try rw [show a = 2 by omega]); show x2 = coS s0 2; unfold coS; rw [if_neg (by decide), if_neg (by decide), if_pos rfl]; rw [show s0 1 4 = s0 256 1 by omega]; exact w_2)⟩)⟩
      · rw [c1851]
        refine x_B k174_140 rfl (fun _ => rfl) (fun _ => rfl) (fun _ _ => rfl) ?_
        show xe none 174 220 [(0, .ref 256), (1, vi 3), (2, vi x2), (3, vi x3), (4, vi x4), (5, vi x5), (6, vi x6)] [] s 0 0 _
        refine x_A k174_220 (fun _ => rfl) ?_
        refine x_getI k174_221 (f := 6) rfl (q := 256) (n := 62) (kd := 15) ⟨by decide, rfl⟩ (by decide) rfl ?_
        refine x_top (fun z1853 e_z1853 => ?_)
        have g_z1853 : (0 : Int) ≤ s 256 6 ∧ s 256 6 ≤ 40 := hG 256 6
        exact x_iret k174_224 rfl ⟨hG, f, z1853, rfl, (by first | exact x_rbe e_z1853 g_z1853 rfl rfl | exact x_rb g_z1853 rfl rfl | exact ⟨by omega, by omega⟩), (Or.inr ⟨by omega, (by have q1 := pG1.1; have q0 := pT.1.1; have q2 := pT.1.2.1; have q3 := pG3.1; obtain ⟨x1_, -, x3_, x4_, -⟩ := pX; have w1_ := pW.1; have gg_ : (0 : Int) ≤ s0 50 6 ∧ s0 50 6 ≤ 120 := hG0 50 6; (try rw [show a = 3 by omega]); have ef_ := f 256 6 (show 4103 ∉ [5312, 5376, 4123, 5440, 5504, 5568, 5632, 5696, 5760] from by decide); show z1853 = coS s0 3; unfold coS; rw [if_neg (by decide), if_neg (by decide), if_neg (by decide), if_pos rfl]; omega)⟩)⟩
      · rw [c1851]
        refine x_B k174_140 rfl (fun _ => rfl) (fun _ => rfl) (fun _ _ => rfl) ?_
        show xe none 174 225 [(0, .ref 256), (1, vi 4), (2, vi x2), (3, vi x3), (4, vi x4), (5, vi x5), (6, vi x6)] [] s 0 0 _
        refine x_A k174_225 (fun _ => rfl) ?_
        refine x_getI k174_226 (f := 10) rfl (q := 256) (n := 62) (kd := 15) ⟨by decide, rfl⟩ (by decide) rfl ?_
        refine x_rw (e_x1001.symm) ?_
        exact x_iret k174_229 rfl ⟨hG, f, x1001, rfl, (by first | exact x_rb b_x1001 rfl rfl | exact ⟨by omega, by omega⟩), (Or.inr ⟨by omega, (by have q1 := pG1.1; have q0 := pT.1.1; have q2 := pT.1.2.1; have q3 := pG3.1; obtain ⟨x1_, -, x3_, x4_, -⟩ := pX; have w1_ := pW.1; have gg_ : (0 : Int) ≤ s0 50 6 ∧ s0 50 6 ≤ 120 := hG0 50 6; (try rw [show a = 4 by omega]); have ef_ := f 256 10 (show 4107 ∉ [5312, 5376, 4123, 5440, 5504, 5568, 5632, 5696, 5760] from by decide); show x1001 = coS s0 4; unfold coS; rw [if_neg (by decide), if_neg (by decide), if_neg (by decide), if_neg (by decide), if_pos rfl]; omega)⟩)⟩
      · rw [c1851]
        refine x_B k174_140 rfl (fun _ => rfl) (fun _ => rfl) (fun _ _ => rfl) ?_
        show xe none 174 230 [(0, .ref 256), (1, vi 5), (2, vi x2), (3, vi x3), (4, vi x4), (5, vi x5), (6, vi x6)] [] s 0 0 _
        refine x_A k174_230 (fun _ => rfl) ?_
        exact x_iret k174_231 rfl ⟨hG, f, x3, rfl, (by first | exact x_rb b_x3 rfl rfl | exact ⟨by omega, by omega⟩), (Or.inr ⟨by omega, (by have q1 := pG1.1; have q0 := pT.1.1; have q2 := pT.1.2.1; have q3 := pG3.1; obtain ⟨x1_, -, x3_, x4_, -⟩ := pX; have w1_ := pW.1; have gg_ : (0 : Int) ≤ s0 50 6 ∧ s0 50 6 ≤ 120 := hG0 50 6; (try rw [show a = 5 by omega]); show x3 = coS s0 5; unfold coS; rw [if_neg (by decide), if_neg (by decide), if_neg (by decide), if_neg (by decide), if_neg (by decide), if_pos rfl]; rw [show s0 50 6 = x6 by omega]; exact w_3)⟩)⟩
      · rw [c1851]
        refine x_B k174_140 rfl (fun _ => rfl) (fun _ => rfl) (fun _ _ => rfl) ?_
        show xe none 174 232 [(0, .ref 256), (1, vi 6), (2, vi x2), (3, vi x3), (4, vi x4), (5, vi x5), (6, vi x6)] [] s 0 0 _
        refine x_A k174_232 (fun _ => rfl) ?_
        exact x_iret k174_234 rfl ⟨hG, f, x4, rfl, (by first | exact x_rb b_x4 rfl rfl | exact ⟨by omega, by omega⟩), (Or.inr ⟨by omega, (by have q1 := pG1.1; have q0 := pT.1.1; have q2 := pT.1.2.1; have q3 := pG3.1; obtain ⟨x1_, -, x3_, x4_, -⟩ := pX; have w1_ := pW.1; have gg_ : (0 : Int) ≤ s0 50 6 ∧ s0 50 6 ≤ 120 := hG0 50 6; (try rw [show a = 6 by omega]); show x4 = coS s0 6; unfold coS; rw [if_neg (by decide), if_neg (by decide), if_neg (by decide), if_neg (by decide), if_neg (by decide), if_neg (by decide), if_pos rfl]; rw [show s0 50 6 = x6 by omega]; exact w_4)⟩)⟩
      · rw [c1851]
        refine x_B k174_140 rfl (fun _ => rfl) (fun _ => rfl) (fun _ _ => rfl) ?_
        show xe none 174 235 [(0, .ref 256), (1, vi 7), (2, vi x2), (3, vi x3), (4, vi x4), (5, vi x5), (6, vi x6)] [] s 0 0 _
        refine x_A k174_235 (fun _ => rfl) ?_
        exact x_iret k174_237 rfl ⟨hG, f, x5, rfl, (by first | exact x_rb b_x5 rfl rfl | exact ⟨by omega, by omega⟩), (Or.inr ⟨by omega, (by have q1 := pG1.1; have q0 := pT.1.1; have q2 := pT.1.2.1; have q3 := pG3.1; obtain ⟨x1_, -, x3_, x4_, -⟩ := pX; have w1_ := pW.1; have gg_ : (0 : Int) ≤ s0 50 6 ∧ s0 50 6 ≤ 120 := hG0 50 6; (try rw [show a = 7 by omega]); show x5 = coS s0 7; unfold coS; rw [if_neg (by decide), if_neg (by decide), if_neg (by decide), if_neg (by decide), if_neg (by decide), if_neg (by decide), if_neg (by decide), if_pos rfl]; rw [show s0 50 6 = x6 by omega]; exact w_5 (by omega))⟩)⟩
      · rw [c1851]
        refine x_B k174_140 rfl (fun _ => rfl) (fun _ => rfl) (fun _ _ => rfl) ?_
        show xe none 174 238 [(0, .ref 256), (1, vi 8), (2, vi x2), (3, vi x3), (4, vi x4), (5, vi x5), (6, vi x6)] [] s 0 0 _
        refine x_A k174_238 (fun _ => rfl) ?_
        refine x_getI k174_239 (f := 17) rfl (q := 256) (n := 62) (kd := 15) ⟨by decide, rfl⟩ (by decide) rfl ?_
        refine x_top (fun z1854 e_z1854 => ?_)
        have g_z1854 : (0 : Int) ≤ s 256 17 ∧ s 256 17 ≤ 8 := hG 256 17
        exact x_iret k174_242 rfl ⟨hG, f, z1854, rfl, (by first | exact x_rbe e_z1854 g_z1854 rfl rfl | exact x_rb g_z1854 rfl rfl | exact ⟨by omega, by omega⟩), (Or.inr ⟨by omega, (by have q1 := pG1.1; have q0 := pT.1.1; have q2 := pT.1.2.1; have q3 := pG3.1; obtain ⟨x1_, -, x3_, x4_, -⟩ := pX; have w1_ := pW.1; have gg_ : (0 : Int) ≤ s0 50 6 ∧ s0 50 6 ≤ 120 := hG0 50 6; (try rw [show a = 8 by omega]); have ef_ := f 256 17 (show 4114 ∉ [5312, 5376, 4123, 5440, 5504, 5568, 5632, 5696, 5760] from by decide); show z1854 = coS s0 8; unfold coS; rw [if_neg (by decide), if_neg (by decide), if_neg (by decide), if_neg (by decide), if_neg (by decide), if_neg (by decide), if_neg (by decide), if_neg (by decide), if_pos rfl]; omega)⟩)⟩
      · rw [c1851]
        refine x_B k174_140 rfl (fun _ => rfl) (fun _ => rfl) (fun _ _ => rfl) ?_
        show xe none 174 243 [(0, .ref 256), (1, vi 9), (2, vi x2), (3, vi x3), (4, vi x4), (5, vi x5), (6, vi x6)] [] s 0 0 _
        refine x_A k174_243 (fun _ => rfl) ?_
        refine x_getI k174_244 (f := 34) rfl (q := 256) (n := 62) (kd := 15) ⟨by decide, rfl⟩ (by decide) rfl ?_
        refine x_top (fun z1855 e_z1855 => ?_)
        have g_z1855 : (0 : Int) ≤ s 256 34 ∧ s 256 34 ≤ 160 := hG 256 34
        exact x_iret k174_247 rfl ⟨hG, f, z1855, rfl, (by first | exact x_rbe e_z1855 g_z1855 rfl rfl | exact x_rb g_z1855 rfl rfl | exact ⟨by omega, by omega⟩), (Or.inr ⟨by omega, (by have q1 := pG1.1; have q0 := pT.1.1; have q2 := pT.1.2.1; have q3 := pG3.1; obtain ⟨x1_, -, x3_, x4_, -⟩ := pX; have w1_ := pW.1; have gg_ : (0 : Int) ≤ s0 50 6 ∧ s0 50 6 ≤ 120 := hG0 50 6; (try rw [show a = 9 by omega]); have ef_ := f 256 34 (show 4131 ∉ [5312, 5376, 4123, 5440, 5504, 5568, 5632, 5696, 5760] from by decide); show z1855 = coS s0 9; unfold coS; rw [if_neg (by decide), if_neg (by decide), if_neg (by decide), if_neg (by decide), if_neg (by decide), if_neg (by decide), if_neg (by decide), if_neg (by decide), if_neg (by decide), if_pos rfl]; omega)⟩)⟩
      · rw [c1851]
        refine x_B k174_140 rfl (fun _ => rfl) (fun _ => rfl) (fun _ _ => rfl) ?_
        show xe none 174 248 [(0, .ref 256), (1, vi 10), (2, vi x2), (3, vi x3), (4, vi x4), (5, vi x5), (6, vi x6)] [] s 0 0 _
        refine x_A k174_248 (fun _ => rfl) ?_
        refine x_getI k174_249 (f := 40) rfl (q := 256) (n := 62) (kd := 15) ⟨by decide, rfl⟩ (by decide) rfl ?_
        refine x_top (fun z1856 e_z1856 => ?_)
        have g_z1856 : (0 : Int) ≤ s 256 40 ∧ s 256 40 ≤ 60 := hG 256 40
        exact x_iret k174_252 rfl ⟨hG, f, z1856, rfl, (by first | exact x_rbe e_z1856 g_z1856 rfl rfl | exact x_rb g_z1856 rfl rfl | exact ⟨by omega, by omega⟩), (Or.inr ⟨by omega, (by have q1 := pG1.1; have q0 := pT.1.1; have q2 := pT.1.2.1; have q3 := pG3.1; obtain ⟨x1_, -, x3_, x4_, -⟩ := pX; have w1_ := pW.1; have gg_ : (0 : Int) ≤ s0 50 6 ∧ s0 50 6 ≤ 120 := hG0 50 6; (try rw [show a = 10 by omega]); have ef_ := f 256 40 (show 4137 ∉ [5312, 5376, 4123, 5440, 5504, 5568, 5632, 5696, 5760] from by decide); show z1856 = coS s0 10; unfold coS; rw [if_neg (by decide), if_neg (by decide), if_neg (by decide), if_neg (by decide), if_neg (by decide), if_neg (by decide), if_neg (by decide), if_neg (by decide), if_neg (by decide), if_neg (by decide), if_pos rfl]; omega)⟩)⟩
      · rw [c1851]
        refine x_B k174_140 rfl (fun _ => rfl) (fun _ => rfl) (fun _ _ => rfl) ?_
        show xe none 174 253 [(0, .ref 256), (1, vi 11), (2, vi x2), (3, vi x3), (4, vi x4), (5, vi x5), (6, vi x6)] [] s 0 0 _
        refine x_A k174_253 (fun _ => rfl) ?_
        refine x_getI k174_254 (f := 43) rfl (q := 256) (n := 62) (kd := 15) ⟨by decide, rfl⟩ (by decide) rfl ?_
        refine x_top (fun z1857 e_z1857 => ?_)
        have g_z1857 : (0 : Int) ≤ s 256 43 ∧ s 256 43 ≤ 8 := hG 256 43
        exact x_iret k174_257 rfl ⟨hG, f, z1857, rfl, (by first | exact x_rbe e_z1857 g_z1857 rfl rfl | exact x_rb g_z1857 rfl rfl | exact ⟨by omega, by omega⟩), (Or.inr ⟨by omega, (by have q1 := pG1.1; have q0 := pT.1.1; have q2 := pT.1.2.1; have q3 := pG3.1; obtain ⟨x1_, -, x3_, x4_, -⟩ := pX; have w1_ := pW.1; have gg_ : (0 : Int) ≤ s0 50 6 ∧ s0 50 6 ≤ 120 := hG0 50 6; (try rw [show a = 11 by omega]); have ef_ := f 256 43 (show 4140 ∉ [5312, 5376, 4123, 5440, 5504, 5568, 5632, 5696, 5760] from by decide); show z1857 = coS s0 11; unfold coS; rw [if_neg (by decide), if_neg (by decide), if_neg (by decide), if_neg (by decide), if_neg (by decide), if_neg (by decide), if_neg (by decide), if_neg (by decide), if_neg (by decide), if_neg (by decide), if_neg (by decide), if_pos rfl]; omega)⟩)⟩
      · rw [c1851]
        refine x_B k174_140 rfl (fun _ => rfl) (fun _ => rfl) (fun _ _ => rfl) ?_
        show xe none 174 258 [(0, .ref 256), (1, vi 12), (2, vi x2), (3, vi x3), (4, vi x4), (5, vi x5), (6, vi x6)] [] s 0 0 _
        refine x_A k174_258 (fun _ => rfl) ?_
        refine x_getI k174_259 (f := 58) rfl (q := 256) (n := 62) (kd := 15) ⟨by decide, rfl⟩ (by decide) rfl ?_
        refine x_top (fun z1858 e_z1858 => ?_)
        have g_z1858 : (0 : Int) ≤ s 256 58 ∧ s 256 58 ≤ 4 := hG 256 58
        exact x_iret k174_262 rfl ⟨hG, f, z1858, rfl, (by first | exact x_rbe e_z1858 g_z1858 rfl rfl | exact x_rb g_z1858 rfl rfl | exact ⟨by omega, by omega⟩), (Or.inr ⟨by omega, (by have q1 := pG1.1; have q0 := pT.1.1; have q2 := pT.1.2.1; have q3 := pG3.1; obtain ⟨x1_, -, x3_, x4_, -⟩ := pX; have w1_ := pW.1; have gg_ : (0 : Int) ≤ s0 50 6 ∧ s0 50 6 ≤ 120 := hG0 50 6; (try rw [show a = 12 by omega]); have ef_ := f 256 58 (show 4155 ∉ [5312, 5376, 4123, 5440, 5504, 5568, 5632, 5696, 5760] from by decide); show z1858 = coS s0 12; unfold coS; rw [if_neg (by decide), if_neg (by decide), if_neg (by decide), if_neg (by decide), if_neg (by decide), if_neg (by decide), if_neg (by decide), if_neg (by decide), if_neg (by decide), if_neg (by decide), if_neg (by decide), if_neg (by decide)]; omega)⟩)⟩
      · refine x_tabD k174_140 ⟨by omega, by omega⟩ c1851 (t0 := 263) rfl ?_
        refine x_sipush k174_263 (by decide +kernel) ?_
        exact x_iret k174_266 rfl ⟨hG, f, (-1002), rfl, ⟨by decide, by decide⟩, (Or.inl ⟨by omega, by omega⟩)⟩
    · skip
      refine x_A k174_66 (fun _ => rfl) ?_
      refine x_A k174_67 (fun _ => rfl) ?_
      refine x_getR k174_68 (f := 27) rfl (q := 256) (n := 62) (kd := 15) ⟨by decide, rfl⟩ (q2 := 277) (by decide) rfl ?_
      refine x_A k174_71 (fun _ => rfl) ?_
      refine x_iald k174_73 (q := 277) (n := 120) ⟨by decide, rfl⟩ (by decide) (by first | exact x_rbl b_x6 rfl rfl | exact ⟨by omega, by omega⟩) ?_
      refine x_top (fun z1859 e_z1859 => ?_)
      have g_z1859 : (0 : Int) ≤ s 277 x6.toNat ∧ s 277 x6.toNat ≤ 4 := hG 277 x6.toNat
      have m6_ := w_1.me (g := x6) ⟨by omega, by omega⟩
      have z277_ : wrC s0 x6 = z1859 := m6_.2.2.symm.trans (e_z1859.symm)
      refine x_if_le k174_74 (t := 81) rfl (by first | exact x_rbe e_z1859 g_z1859 rfl rfl | exact x_rb g_z1859 rfl rfl | exact ⟨by omega, by omega⟩) (fun c1860 => ?_) (fun c1860 => ?_)
      · skip
        refine x_A k174_81 (fun _ => rfl) ?_
        refine x_iadd k174_82 ?_
        refine x_top (fun z1861 e_z1861 => ?_)
        refine x_istore_n k174_83 (ls' := [(3, vi z1861), (0, .ref 256), (1, vi x1), (2, vi x2), (4, vi x4), (5, vi x5), (6, vi x6)]) (by decide) rfl ?_
        refine x_A k174_84 (fun _ => rfl) ?_
        refine x_A k174_86 (fun _ => rfl) ?_
        refine x_getR k174_87 (f := 31) rfl (q := 256) (n := 62) (kd := 15) ⟨by decide, rfl⟩ (q2 := 281) (by decide) rfl ?_
        refine x_A k174_90 (fun _ => rfl) ?_
        refine x_bald k174_92 (q := 281) (n := 120) ⟨by decide, rfl⟩ (by decide) (by first | exact x_rbl b_x6 rfl rfl | exact ⟨by omega, by omega⟩) ?_
        refine x_top (fun z1862 e_z1862 => ?_)
        have g_z1862 : (0 : Int) ≤ s 281 x6.toNat ∧ s 281 x6.toNat ≤ 1 := hG 281 x6.toNat
        have z281_ := m6_.2.1
        rw [e_z1862.symm] at z281_
        refine x_if_eq k174_93 (t := 100) rfl (by first | exact x_rbe e_z1862 g_z1862 rfl rfl | exact x_rb g_z1862 rfl rfl | exact ⟨by omega, by omega⟩) (fun c1863 => ?_) (fun c1863 => ?_)
        · skip
          refine x_A k174_100 (fun _ => rfl) ?_
          refine x_iadd k174_101 ?_
          refine x_top (fun z1864 e_z1864 => ?_)
          refine x_istore k174_102 (ls' := [(4, vi z1864), (3, vi z1861), (0, .ref 256), (1, vi x1), (2, vi x2), (5, vi x5), (6, vi x6)]) (by decide) rfl ?_
          refine x_A k174_104 (fun _ => rfl) ?_
          refine x_A k174_106 (fun _ => rfl) ?_
          refine x_bipush k174_107 (by decide +kernel) ?_
          refine x_ic_ne k174_109 (t := 129) rfl (by first | exact x_rb b_x1 rfl rfl | exact ⟨by omega, by omega⟩) ⟨by decide, by decide⟩ (fun c1865 => ?_) (fun c1865 => ?_)
          · skip
            refine x_A k174_129 (fun _ => rfl) ?_
            refine x_iadd k174_130 ?_
            refine x_top (fun z1866 e_z1866 => ?_)
            refine x_istore k174_131 (ls' := [(5, vi z1866), (4, vi z1864), (3, vi z1861), (0, .ref 256), (1, vi x1), (2, vi x2), (6, vi x6)]) (by decide) rfl ?_
            refine x_iinc k174_133 (ls' := [(6, vi (x6 + 1)), (5, vi z1866), (4, vi z1864), (3, vi z1861), (0, .ref 256), (1, vi x1), (2, vi x2)]) rfl (by decide) rfl ?_
            refine x_goto k174_136 (t := 57) rfl ?_
            refine x_ls (l := [(0, .ref 256), (1, vi x1), (2, vi x2), (3, vi z1861), (4, vi z1864), (5, vi z1866), (6, vi (x6 + 1))]) (show ([0, 1, 2, 3, 4, 5, 6] : List Nat).Nodup from by decide) ⟨rfl, rfl, rfl, rfl, rfl, rfl, rfl, trivial⟩ ?_
            exact ih s x1 x2 z1861 z1864 z1866 (x6 + 1) x1000 x1001 hG f (by first | exact x_rb b_x1 rfl rfl | exact ⟨by omega, by omega⟩) (by first | exact x_rb b_x2 rfl rfl | exact ⟨by omega, by omega⟩) (by first | exact x_rbe e_z1861 g_z1861 rfl rfl | exact x_rb g_z1861 rfl rfl | exact ⟨by omega, by omega⟩) (by first | exact x_rbe e_z1864 g_z1864 rfl rfl | exact x_rb g_z1864 rfl rfl | exact ⟨by omega, by omega⟩) (by first | exact x_rbe e_z1866 g_z1866 rfl rfl | exact x_rb g_z1866 rfl rfl | exact ⟨by omega, by omega⟩) ⟨by omega, by omega⟩ (by first | exact x_rb b_x1000 rfl rfl | exact ⟨by omega, by omega⟩) (by first | exact x_rb b_x1001 rfl rfl | exact ⟨by omega, by omega⟩) (by omega) (by omega) (by omega) (by omega) (by omega) w_1 w_2 (by have cs := ctp_s (fun k => wrC s0 (k : Int) ≠ 0) (k := x6) (by omega); rw [show ((x6.toNat : Nat) : Int) = x6 by omega] at cs; have q := cs.2 (by omega); omega) (by have cs := ctp_s (fun k => loC s0 (s0 0 10) (k : Int)) (k := x6) (by omega); rw [show ((x6.toNat : Nat) : Int) = x6 by omega] at cs; have q := cs.2 (fun q => by have w := z281_.mpr q; omega); omega) (fun q => by exfalso; omega) (e_x1000.symm).symm (e_x1001.symm).symm  (by omega)
          · skip
            refine x_A k174_112 (fun _ => rfl) ?_
            refine x_A k174_113 (fun _ => rfl) ?_
            refine x_A k174_115 (fun _ => rfl) ?_
            refine x_getI k174_116 (f := 0) rfl (q := 256) (n := 62) (kd := 15) ⟨by decide, rfl⟩ (by decide) rfl ?_
            refine x_top (fun z1867 e_z1867 => ?_)
            have g_z1867 : (0 : Int) ≤ s 256 0 ∧ s 256 0 ≤ 9 := hG 256 0
            have t0_ := pT.1.1
            have pg_ := pG1.1
            have pg3_ := pG3.1
            have k10_ := f 256 10 (show 4107 ∉ [5312, 5376, 4123, 5440, 5504, 5568, 5632, 5696, 5760] from by decide)
            have k6_ := f 256 6 (show 4103 ∉ [5312, 5376, 4123, 5440, 5504, 5568, 5632, 5696, 5760] from by decide)
            have k506_ := f 50 6 (show 711 ∉ [5312, 5376, 4123, 5440, 5504, 5568, 5632, 5696, 5760] from by decide)
            have k0_ := f 256 0 (show 4097 ∉ [5312, 5376, 4123, 5440, 5504, 5568, 5632, 5696, 5760] from by decide)
            refine x_callV k174_119 (y := 171) (n := 2) (w0 := 1) (w1 := 2) (as := [vi x6, vi z1867]) (rest := [vi x5]) (by decide +kernel) (q := 256) (nq := 62) (kq := 15) ⟨by decide, rfl⟩ rfl rfl rfl rfl (xe_mono (E_X11_lacks_256 s hG (hJ0.fl f (by decide)) x6 (by first | exact x_rb b_x6 rfl rfl | exact ⟨by omega, by omega⟩) z1867 (by first | exact x_rbe e_z1867 g_z1867 rfl rfl | exact x_rb g_z1867 rfl rfl | exact ⟨by omega, by omega⟩) (pR.fl f (by decide)) (pT.fl (hG0 256 1).2 f (by decide)) (pG1.fl f (by decide)) (pG3.fl f (by decide)) (by omega) (by rw [f 55 _ (show 1024 ∉ [5312, 5376, 4123, 5440, 5504, 5568, 5632, 5696, 5760] from by decide)]; have q := (pG3.2 x6 (by omega) (by omega) (by omega)).2.2.2; omega) (by rw [show z1867 = s0 0 10 by omega]; exact FdZ.ve w_1 (FL.ve f hG0 (by decide)).sy k10_.symm k6_.symm (by omega))) ?_)
            rintro s1869 v ⟨hG_s1869, t_s1869, z1868, rfl, g_z1868, xp_z1868⟩
            have f_s1869 : FL [5312, 5376, 4123, 5440, 5504, 5568, 5632, 5696, 5760] s0 s1869 := f.tr t_s1869 (by decide)
            have q1870 : s1869 256 1 = x1000 := (t_s1869 256 1 (show 4098 ∉ [5312, 5376, 4123] from by decide)).trans e_x1000.symm
            have q1871 : s1869 256 10 = x1001 := (t_s1869 256 10 (show 4107 ∉ [5312, 5376, 4123] from by decide)).trans e_x1001.symm
            have q1872 : s1869 256 0 = z1867 := (t_s1869 256 0 (show 4097 ∉ [5312, 5376, 4123] from by decide)).trans e_z1867.symm
            have q1873 : s1869 277 x6.toNat = z1859 := (t_s1869 277 x6.toNat (show 5440 ∉ [5312, 5376, 4123] from by decide)).trans e_z1859.symm
            have q1874 : s1869 281 x6.toNat = z1862 := (t_s1869 281 x6.toNat (show 5696 ∉ [5312, 5376, 4123] from by decide)).trans e_z1862.symm
            have FDn_s1869 : FdZ s1869 s0 (s0 0 10) := FdZ.fl w_1 t_s1869 (by decide)
            show xe none 174 122 [(4, vi z1864), (3, vi z1861), (0, .ref 256), (1, vi x1), (2, vi x2), (5, vi x5), (6, vi x6)] [vi z1868, vi x5] s1869 0 0 _
            have il := xp_z1868
            rw [(FL.ve f hG0 (by decide)).la, show z1867 = s0 0 10 by omega] at il
            refine x_if_eq k174_122 (t := 129) rfl (by first | exact x_rbe e_z1868 g_z1868 rfl rfl | exact x_rb g_z1868 rfl rfl | exact ⟨by omega, by omega⟩) (fun c1875 => ?_) (fun c1875 => ?_)
            · skip
              refine x_A k174_129 (fun _ => rfl) ?_
              refine x_iadd k174_130 ?_
              refine x_top (fun z1876 e_z1876 => ?_)
              refine x_istore k174_131 (ls' := [(5, vi z1876), (4, vi z1864), (3, vi z1861), (0, .ref 256), (1, vi x1), (2, vi x2), (6, vi x6)]) (by decide) rfl ?_
              refine x_iinc k174_133 (ls' := [(6, vi (x6 + 1)), (5, vi z1876), (4, vi z1864), (3, vi z1861), (0, .ref 256), (1, vi x1), (2, vi x2)]) rfl (by decide) rfl ?_
              refine x_goto k174_136 (t := 57) rfl ?_
              refine x_ls (l := [(0, .ref 256), (1, vi x1), (2, vi x2), (3, vi z1861), (4, vi z1864), (5, vi z1876), (6, vi (x6 + 1))]) (show ([0, 1, 2, 3, 4, 5, 6] : List Nat).Nodup from by decide) ⟨rfl, rfl, rfl, rfl, rfl, rfl, rfl, trivial⟩ ?_
              exact ih s1869 x1 x2 z1861 z1864 z1876 (x6 + 1) x1000 x1001 hG_s1869 f_s1869 (by first | exact x_rb b_x1 rfl rfl | exact ⟨by omega, by omega⟩) (by first | exact x_rb b_x2 rfl rfl | exact ⟨by omega, by omega⟩) (by first | exact x_rbe e_z1861 g_z1861 rfl rfl | exact x_rb g_z1861 rfl rfl | exact ⟨by omega, by omega⟩) (by first | exact x_rbe e_z1864 g_z1864 rfl rfl | exact x_rb g_z1864 rfl rfl | exact ⟨by omega, by omega⟩) (by first | exact x_rbe e_z1876 g_z1876 rfl rfl | exact x_rb g_z1876 rfl rfl | exact ⟨by omega, by omega⟩) ⟨by omega, by omega⟩ (by first | exact x_rb b_x1000 rfl rfl | exact ⟨by omega, by omega⟩) (by first | exact x_rb b_x1001 rfl rfl | exact ⟨by omega, by omega⟩) (by omega) (by omega) (by omega) (by omega) (by omega) FDn_s1869 w_2 (by have cs := ctp_s (fun k => wrC s0 (k : Int) ≠ 0) (k := x6) (by omega); rw [show ((x6.toNat : Nat) : Int) = x6 by omega] at cs; have q := cs.2 (by omega); omega) (by have cs := ctp_s (fun k => loC s0 (s0 0 10) (k : Int)) (k := x6) (by omega); rw [show ((x6.toNat : Nat) : Int) = x6 by omega] at cs; have q := cs.2 (fun q => by have w := z281_.mpr q; omega); omega) (fun q7 => by have cs := ctp_s (fun k => laC s0 (s0 0 10) (k : Int)) (k := x6) (by omega); rw [show ((x6.toNat : Nat) : Int) = x6 by omega] at cs; have w5 := w_5 q7; have q := cs.2 (il.resolve_left (fun w => by omega)).2; omega) (q1870).symm (q1871).symm  (by omega)
            · skip
              refine x_A k174_125 (fun _ => rfl) ?_
              refine x_goto k174_126 (t := 130) rfl ?_
              refine x_iadd k174_130 ?_
              refine x_top (fun z1877 e_z1877 => ?_)
              refine x_istore k174_131 (ls' := [(5, vi z1877), (4, vi z1864), (3, vi z1861), (0, .ref 256), (1, vi x1), (2, vi x2), (6, vi x6)]) (by decide) rfl ?_
              refine x_iinc k174_133 (ls' := [(6, vi (x6 + 1)), (5, vi z1877), (4, vi z1864), (3, vi z1861), (0, .ref 256), (1, vi x1), (2, vi x2)]) rfl (by decide) rfl ?_
              refine x_goto k174_136 (t := 57) rfl ?_
              refine x_ls (l := [(0, .ref 256), (1, vi x1), (2, vi x2), (3, vi z1861), (4, vi z1864), (5, vi z1877), (6, vi (x6 + 1))]) (show ([0, 1, 2, 3, 4, 5, 6] : List Nat).Nodup from by decide) ⟨rfl, rfl, rfl, rfl, rfl, rfl, rfl, trivial⟩ ?_
              exact ih s1869 x1 x2 z1861 z1864 z1877 (x6 + 1) x1000 x1001 hG_s1869 f_s1869 (by first | exact x_rb b_x1 rfl rfl | exact ⟨by omega, by omega⟩) (by first | exact x_rb b_x2 rfl rfl | exact ⟨by omega, by omega⟩) (by first | exact x_rbe e_z1861 g_z1861 rfl rfl | exact x_rb g_z1861 rfl rfl | exact ⟨by omega, by omega⟩) (by first | exact x_rbe e_z1864 g_z1864 rfl rfl | exact x_rb g_z1864 rfl rfl | exact ⟨by omega, by omega⟩) (by first | exact x_rbe e_z1877 g_z1877 rfl rfl | exact x_rb g_z1877 rfl rfl | exact ⟨by omega, by omega⟩) ⟨by omega, by omega⟩ (by first | exact x_rb b_x1000 rfl rfl | exact ⟨by omega, by omega⟩) (by first | exact x_rb b_x1001 rfl rfl | exact ⟨by omega, by omega⟩) (by omega) (by omega) (by omega) (by omega) (by omega) FDn_s1869 w_2 (by have cs := ctp_s (fun k => wrC s0 (k : Int) ≠ 0) (k := x6) (by omega); rw [show ((x6.toNat : Nat) : Int) = x6 by omega] at cs; have q := cs.2 (by omega); omega) (by have cs := ctp_s (fun k => loC s0 (s0 0 10) (k : Int)) (k := x6) (by omega); rw [show ((x6.toNat : Nat) : Int) = x6 by omega] at cs; have q := cs.2 (fun q => by have w := z281_.mpr q; omega); omega) (fun q7 => by have cs := ctp_s (fun k => laC s0 (s0 0 10) (k : Int)) (k := x6) (by omega); rw [show ((x6.toNat : Nat) : Int) = x6 by omega] at cs; have w5 := w_5 q7; have q := cs.1 (il.resolve_right (fun w => by omega)).2; omega) (q1870).symm (q1871).symm  (by omega)
        · skip
          refine x_A k174_96 (fun _ => rfl) ?_
          refine x_goto k174_97 (t := 101) rfl ?_
          refine x_iadd k174_101 ?_
          refine x_top (fun z1878 e_z1878 => ?_)
          refine x_istore k174_102 (ls' := [(4, vi z1878), (3, vi z1861), (0, .ref 256), (1, vi x1), (2, vi x2), (5, vi x5), (6, vi x6)]) (by decide) rfl ?_
          refine x_A k174_104 (fun _ => rfl) ?_
          refine x_A k174_106 (fun _ => rfl) ?_
          refine x_bipush k174_107 (by decide +kernel) ?_
          refine x_ic_ne k174_109 (t := 129) rfl (by first | exact x_rb b_x1 rfl rfl | exact ⟨by omega, by omega⟩) ⟨by decide, by decide⟩ (fun c1879 => ?_) (fun c1879 => ?_)
          · skip
            refine x_A k174_129 (fun _ => rfl) ?_
            refine x_iadd k174_130 ?_
            refine x_top (fun z1880 e_z1880 => ?_)
            refine x_istore k174_131 (ls' := [(5, vi z1880), (4, vi z1878), (3, vi z1861), (0, .ref 256), (1, vi x1), (2, vi x2), (6, vi x6)]) (by decide) rfl ?_
            refine x_iinc k174_133 (ls' := [(6, vi (x6 + 1)), (5, vi z1880), (4, vi z1878), (3, vi z1861), (0, .ref 256), (1, vi x1), (2, vi x2)]) rfl (by decide) rfl ?_
            refine x_goto k174_136 (t := 57) rfl ?_
            refine x_ls (l := [(0, .ref 256), (1, vi x1), (2, vi x2), (3, vi z1861), (4, vi z1878), (5, vi z1880), (6, vi (x6 + 1))]) (show ([0, 1, 2, 3, 4, 5, 6] : List Nat).Nodup from by decide) ⟨rfl, rfl, rfl, rfl, rfl, rfl, rfl, trivial⟩ ?_
            exact ih s x1 x2 z1861 z1878 z1880 (x6 + 1) x1000 x1001 hG f (by first | exact x_rb b_x1 rfl rfl | exact ⟨by omega, by omega⟩) (by first | exact x_rb b_x2 rfl rfl | exact ⟨by omega, by omega⟩) (by first | exact x_rbe e_z1861 g_z1861 rfl rfl | exact x_rb g_z1861 rfl rfl | exact ⟨by omega, by omega⟩) (by first | exact x_rbe e_z1878 g_z1878 rfl rfl | exact x_rb g_z1878 rfl rfl | exact ⟨by omega, by omega⟩) (by first | exact x_rbe e_z1880 g_z1880 rfl rfl | exact x_rb g_z1880 rfl rfl | exact ⟨by omega, by omega⟩) ⟨by omega, by omega⟩ (by first | exact x_rb b_x1000 rfl rfl | exact ⟨by omega, by omega⟩) (by first | exact x_rb b_x1001 rfl rfl | exact ⟨by omega, by omega⟩) (by omega) (by omega) (by omega) (by omega) (by omega) w_1 w_2 (by have cs := ctp_s (fun k => wrC s0 (k : Int) ≠ 0) (k := x6) (by omega); rw [show ((x6.toNat : Nat) : Int) = x6 by omega] at cs; have q := cs.2 (by omega); omega) (by have cs := ctp_s (fun k => loC s0 (s0 0 10) (k : Int)) (k := x6) (by omega); rw [show ((x6.toNat : Nat) : Int) = x6 by omega] at cs; have q := cs.1 (z281_.mp (by omega)); omega) (fun q => by exfalso; omega) (e_x1000.symm).symm (e_x1001.symm).symm  (by omega)
          · skip
            refine x_A k174_112 (fun _ => rfl) ?_
            refine x_A k174_113 (fun _ => rfl) ?_
            refine x_A k174_115 (fun _ => rfl) ?_
            refine x_getI k174_116 (f := 0) rfl (q := 256) (n := 62) (kd := 15) ⟨by decide, rfl⟩ (by decide) rfl ?_
            refine x_top (fun z1881 e_z1881 => ?_)
            have g_z1881 : (0 : Int) ≤ s 256 0 ∧ s 256 0 ≤ 9 := hG 256 0
            have t0_ := pT.1.1
            have pg_ := pG1.1
            have pg3_ := pG3.1
            have k10_ := f 256 10 (show 4107 ∉ [5312, 5376, 4123, 5440, 5504, 5568, 5632, 5696, 5760] from by decide)
            have k6_ := f 256 6 (show 4103 ∉ [5312, 5376, 4123, 5440, 5504, 5568, 5632, 5696, 5760] from by decide)
            have k506_ := f 50 6 (show 711 ∉ [5312, 5376, 4123, 5440, 5504, 5568, 5632, 5696, 5760] from by decide)
            have k0_ := f 256 0 (show 4097 ∉ [5312, 5376, 4123, 5440, 5504, 5568, 5632, 5696, 5760] from by decide)
            refine x_callV k174_119 (y := 171) (n := 2) (w0 := 1) (w1 := 2) (as := [vi x6, vi z1881]) (rest := [vi x5]) (by decide +kernel) (q := 256) (nq := 62) (kq := 15) ⟨by decide, rfl⟩ rfl rfl rfl rfl (xe_mono (E_X11_lacks_256 s hG (hJ0.fl f (by decide)) x6 (by first | exact x_rb b_x6 rfl rfl | exact ⟨by omega, by omega⟩) z1881 (by first | exact x_rbe e_z1881 g_z1881 rfl rfl | exact x_rb g_z1881 rfl rfl | exact ⟨by omega, by omega⟩) (pR.fl f (by decide)) (pT.fl (hG0 256 1).2 f (by decide)) (pG1.fl f (by decide)) (pG3.fl f (by decide)) (by omega) (by rw [f 55 _ (show 1024 ∉ [5312, 5376, 4123, 5440, 5504, 5568, 5632, 5696, 5760] from by decide)]; have q := (pG3.2 x6 (by omega) (by omega) (by omega)).2.2.2; omega) (by rw [show z1881 = s0 0 10 by omega]; exact FdZ.ve w_1 (FL.ve f hG0 (by decide)).sy k10_.symm k6_.symm (by omega))) ?_)
            rintro s1883 v ⟨hG_s1883, t_s1883, z1882, rfl, g_z1882, xp_z1882⟩
            have f_s1883 : FL [5312, 5376, 4123, 5440, 5504, 5568, 5632, 5696, 5760] s0 s1883 := f.tr t_s1883 (by decide)
            have q1884 : s1883 256 1 = x1000 := (t_s1883 256 1 (show 4098 ∉ [5312, 5376, 4123] from by decide)).trans e_x1000.symm
            have q1885 : s1883 256 10 = x1001 := (t_s1883 256 10 (show 4107 ∉ [5312, 5376, 4123] from by decide)).trans e_x1001.symm
            have q1886 : s1883 256 0 = z1881 := (t_s1883 256 0 (show 4097 ∉ [5312, 5376, 4123] from by decide)).trans e_z1881.symm
            have q1887 : s1883 277 x6.toNat = z1859 := (t_s1883 277 x6.toNat (show 5440 ∉ [5312, 5376, 4123] from by decide)).trans e_z1859.symm
            have q1888 : s1883 281 x6.toNat = z1862 := (t_s1883 281 x6.toNat (show 5696 ∉ [5312, 5376, 4123] from by decide)).trans e_z1862.symm
            have FDn_s1883 : FdZ s1883 s0 (s0 0 10) := FdZ.fl w_1 t_s1883 (by decide)
            show xe none 174 122 [(4, vi z1878), (3, vi z1861), (0, .ref 256), (1, vi x1), (2, vi x2), (5, vi x5), (6, vi x6)] [vi z1882, vi x5] s1883 0 0 _
            have il := xp_z1882
            rw [(FL.ve f hG0 (by decide)).la, show z1881 = s0 0 10 by omega] at il
            refine x_if_eq k174_122 (t := 129) rfl (by first | exact x_rbe e_z1882 g_z1882 rfl rfl | exact x_rb g_z1882 rfl rfl | exact ⟨by omega, by omega⟩) (fun c1889 => ?_) (fun c1889 => ?_)
            · skip
              refine x_A k174_129 (fun _ => rfl) ?_
              refine x_iadd k174_130 ?_
              refine x_top (fun z1890 e_z1890 => ?_)
              refine x_istore k174_131 (ls' := [(5, vi z1890), (4, vi z1878), (3, vi z1861), (0, .ref 256), (1, vi x1), (2, vi x2), (6, vi x6)]) (by decide) rfl ?_
              refine x_iinc k174_133 (ls' := [(6, vi (x6 + 1)), (5, vi z1890), (4, vi z1878), (3, vi z1861), (0, .ref 256), (1, vi x1), (2, vi x2)]) rfl (by decide) rfl ?_
              refine x_goto k174_136 (t := 57) rfl ?_
              refine x_ls (l := [(0, .ref 256), (1, vi x1), (2, vi x2), (3, vi z1861), (4, vi z1878), (5, vi z1890), (6, vi (x6 + 1))]) (show ([0, 1, 2, 3, 4, 5, 6] : List Nat).Nodup from by decide) ⟨rfl, rfl, rfl, rfl, rfl, rfl, rfl, trivial⟩ ?_
              exact ih s1883 x1 x2 z1861 z1878 z1890 (x6 + 1) x1000 x1001 hG_s1883 f_s1883 (by first | exact x_rb b_x1 rfl rfl | exact ⟨by omega, by omega⟩) (by first | exact x_rb b_x2 rfl rfl | exact ⟨by omega, by omega⟩) (by first | exact x_rbe e_z1861 g_z1861 rfl rfl | exact x_rb g_z1861 rfl rfl | exact ⟨by omega, by omega⟩) (by first | exact x_rbe e_z1878 g_z1878 rfl rfl | exact x_rb g_z1878 rfl rfl | exact ⟨by omega, by omega⟩) (by first | exact x_rbe e_z1890 g_z1890 rfl rfl | exact x_rb g_z1890 rfl rfl | exact ⟨by omega, by omega⟩) ⟨by omega, by omega⟩ (by first | exact x_rb b_x1000 rfl rfl | exact ⟨by omega, by omega⟩) (by first | exact x_rb b_x1001 rfl rfl | exact ⟨by omega, by omega⟩) (by omega) (by omega) (by omega) (by omega) (by omega) FDn_s1883 w_2 (by have cs := ctp_s (fun k => wrC s0 (k : Int) ≠ 0) (k := x6) (by omega); rw [show ((x6.toNat : Nat) : Int) = x6 by omega] at cs; have q := cs.2 (by omega); omega) (by have cs := ctp_s (fun k => loC s0 (s0 0 10) (k : Int)) (k := x6) (by omega); rw [show ((x6.toNat : Nat) : Int) = x6 by omega] at cs; have q := cs.1 (z281_.mp (by omega)); omega) (fun q7 => by have cs := ctp_s (fun k => laC s0 (s0 0 10) (k : Int)) (k := x6) (by omega); rw [show ((x6.toNat : Nat) : Int) = x6 by omega] at cs; have w5 := w_5 q7; have q := cs.2 (il.resolve_left (fun w => by omega)).2; omega) (q1884).symm (q1885).symm  (by omega)
            · skip
              refine x_A k174_125 (fun _ => rfl) ?_
              refine x_goto k174_126 (t := 130) rfl ?_
              refine x_iadd k174_130 ?_
              refine x_top (fun z1891 e_z1891 => ?_)
              refine x_istore k174_131 (ls' := [(5, vi z1891), (4, vi z1878), (3, vi z1861), (0, .ref 256), (1, vi x1), (2, vi x2), (6, vi x6)]) (by decide) rfl ?_
              refine x_iinc k174_133 (ls' := [(6, vi (x6 + 1)), (5, vi z1891), (4, vi z1878), (3, vi z1861), (0, .ref 256), (1, vi x1), (2, vi x2)]) rfl (by decide) rfl ?_
              refine x_goto k174_136 (t := 57) rfl ?_
              refine x_ls (l := [(0, .ref 256), (1, vi x1), (2, vi x2), (3, vi z1861), (4, vi z1878), (5, vi z1891), (6, vi (x6 + 1))]) (show ([0, 1, 2, 3, 4, 5, 6] : List Nat).Nodup from by decide) ⟨rfl, rfl, rfl, rfl, rfl, rfl, rfl, trivial⟩ ?_
              exact ih s1883 x1 x2 z1861 z1878 z1891 (x6 + 1) x1000 x1001 hG_s1883 f_s1883 (by first | exact x_rb b_x1 rfl rfl | exact ⟨by omega, by omega⟩) (by first | exact x_rb b_x2 rfl rfl | exact ⟨by omega, by omega⟩) (by first | exact x_rbe e_z1861 g_z1861 rfl rfl | exact x_rb g_z1861 rfl rfl | exact ⟨by omega, by omega⟩) (by first | exact x_rbe e_z1878 g_z1878 rfl rfl | exact x_rb g_z1878 rfl rfl | exact ⟨by omega, by omega⟩) (by first | exact x_rbe e_z1891 g_z1891 rfl rfl | exact x_rb g_z1891 rfl rfl | exact ⟨by omega, by omega⟩) ⟨by omega, by omega⟩ (by first | exact x_rb b_x1000 rfl rfl | exact ⟨by omega, by omega⟩) (by first | exact x_rb b_x1001 rfl rfl | exact ⟨by omega, by omega⟩) (by omega) (by omega) (by omega) (by omega) (by omega) FDn_s1883 w_2 (by have cs := ctp_s (fun k => wrC s0 (k : Int) ≠ 0) (k := x6) (by omega); rw [show ((x6.toNat : Nat) : Int) = x6 by omega] at cs; have q := cs.2 (by omega); omega) (by have cs := ctp_s (fun k => loC s0 (s0 0 10) (k : Int)) (k := x6) (by omega); rw [show ((x6.toNat : Nat) : Int) = x6 by omega] at cs; have q := cs.1 (z281_.mp (by omega)); omega) (fun q7 => by have cs := ctp_s (fun k => laC s0 (s0 0 10) (k : Int)) (k := x6) (by omega); rw [show ((x6.toNat : Nat) : Int) = x6 by omega] at cs; have w5 := w_5 q7; have q := cs.1 (il.resolve_right (fun w => by omega)).2; omega) (q1884).symm (q1885).symm  (by omega)
      · skip
        refine x_A k174_77 (fun _ => rfl) ?_
        refine x_goto k174_78 (t := 82) rfl ?_
        refine x_iadd k174_82 ?_
        refine x_top (fun z1892 e_z1892 => ?_)
        refine x_istore_n k174_83 (ls' := [(3, vi z1892), (0, .ref 256), (1, vi x1), (2, vi x2), (4, vi x4), (5, vi x5), (6, vi x6)]) (by decide) rfl ?_
        refine x_A k174_84 (fun _ => rfl) ?_
        refine x_A k174_86 (fun _ => rfl) ?_
        refine x_getR k174_87 (f := 31) rfl (q := 256) (n := 62) (kd := 15) ⟨by decide, rfl⟩ (q2 := 281) (by decide) rfl ?_
        refine x_A k174_90 (fun _ => rfl) ?_
        refine x_bald k174_92 (q := 281) (n := 120) ⟨by decide, rfl⟩ (by decide) (by first | exact x_rbl b_x6 rfl rfl | exact ⟨by omega, by omega⟩) ?_
        refine x_top (fun z1893 e_z1893 => ?_)
        have g_z1893 : (0 : Int) ≤ s 281 x6.toNat ∧ s 281 x6.toNat ≤ 1 := hG 281 x6.toNat
        have z281_ := m6_.2.1
        rw [e_z1893.symm] at z281_
        refine x_if_eq k174_93 (t := 100) rfl (by first | exact x_rbe e_z1893 g_z1893 rfl rfl | exact x_rb g_z1893 rfl rfl | exact ⟨by omega, by omega⟩) (fun c1894 => ?_) (fun c1894 => ?_)
        · skip
          refine x_A k174_100 (fun _ => rfl) ?_
          refine x_iadd k174_101 ?_
          refine x_top (fun z1895 e_z1895 => ?_)
          refine x_istore k174_102 (ls' := [(4, vi z1895), (3, vi z1892), (0, .ref 256), (1, vi x1), (2, vi x2), (5, vi x5), (6, vi x6)]) (by decide) rfl ?_
          refine x_A k174_104 (fun _ => rfl) ?_
          refine x_A k174_106 (fun _ => rfl) ?_
          refine x_bipush k174_107 (by decide +kernel) ?_
          refine x_ic_ne k174_109 (t := 129) rfl (by first | exact x_rb b_x1 rfl rfl | exact ⟨by omega, by omega⟩) ⟨by decide, by decide⟩ (fun c1896 => ?_) (fun c1896 => ?_)
          · skip
            refine x_A k174_129 (fun _ => rfl) ?_
            refine x_iadd k174_130 ?_
            refine x_top (fun z1897 e_z1897 => ?_)
            refine x_istore k174_131 (ls' := [(5, vi z1897), (4, vi z1895), (3, vi z1892), (0, .ref 256), (1, vi x1), (2, vi x2), (6, vi x6)]) (by decide) rfl ?_
            refine x_iinc k174_133 (ls' := [(6, vi (x6 + 1)), (5, vi z1897), (4, vi z1895), (3, vi z1892), (0, .ref 256), (1, vi x1), (2, vi x2)]) rfl (by decide) rfl ?_
            refine x_goto k174_136 (t := 57) rfl ?_
            refine x_ls (l := [(0, .ref 256), (1, vi x1), (2, vi x2), (3, vi z1892), (4, vi z1895), (5, vi z1897), (6, vi (x6 + 1))]) (show ([0, 1, 2, 3, 4, 5, 6] : List Nat).Nodup from by decide) ⟨rfl, rfl, rfl, rfl, rfl, rfl, rfl, trivial⟩ ?_
            exact ih s x1 x2 z1892 z1895 z1897 (x6 + 1) x1000 x1001 hG f (by first | exact x_rb b_x1 rfl rfl | exact ⟨by omega, by omega⟩) (by first | exact x_rb b_x2 rfl rfl | exact ⟨by omega, by omega⟩) (by first | exact x_rbe e_z1892 g_z1892 rfl rfl | exact x_rb g_z1892 rfl rfl | exact ⟨by omega, by omega⟩) (by first | exact x_rbe e_z1895 g_z1895 rfl rfl | exact x_rb g_z1895 rfl rfl | exact ⟨by omega, by omega⟩) (by first | exact x_rbe e_z1897 g_z1897 rfl rfl | exact x_rb g_z1897 rfl rfl | exact ⟨by omega, by omega⟩) ⟨by omega, by omega⟩ (by first | exact x_rb b_x1000 rfl rfl | exact ⟨by omega, by omega⟩) (by first | exact x_rb b_x1001 rfl rfl | exact ⟨by omega, by omega⟩) (by omega) (by omega) (by omega) (by omega) (by omega) w_1 w_2 (by have cs := ctp_s (fun k => wrC s0 (k : Int) ≠ 0) (k := x6) (by omega); rw [show ((x6.toNat : Nat) : Int) = x6 by omega] at cs; have q := cs.1 (by omega); omega) (by have cs := ctp_s (fun k => loC s0 (s0 0 10) (k : Int)) (k := x6) (by omega); rw [show ((x6.toNat : Nat) : Int) = x6 by omega] at cs; have q := cs.2 (fun q => by have w := z281_.mpr q; omega); omega) (fun q => by exfalso; omega) (e_x1000.symm).symm (e_x1001.symm).symm  (by omega)
          · skip
            refine x_A k174_112 (fun _ => rfl) ?_
            refine x_A k174_113 (fun _ => rfl) ?_
            refine x_A k174_115 (fun _ => rfl) ?_
            refine x_getI k174_116 (f := 0) rfl (q := 256) (n := 62) (kd := 15) ⟨by decide, rfl⟩ (by decide) rfl ?_
            refine x_top (fun z1898 e_z1898 => ?_)
            have g_z1898 : (0 : Int) ≤ s 256 0 ∧ s 256 0 ≤ 9 := hG 256 0
            have t0_ := pT.1.1
            have pg_ := pG1.1
            have pg3_ := pG3.1
            have k10_ := f 256 10 (show 4107 ∉ [5312, 5376, 4123, 5440, 5504, 5568, 5632, 5696, 5760] from by decide)
            have k6_ := f 256 6 (show 4103 ∉ [5312, 5376, 4123, 5440, 5504, 5568, 5632, 5696, 5760] from by decide)
            have k506_ := f 50 6 (show 711 ∉ [5312, 5376, 4123, 5440, 5504, 5568, 5632, 5696, 5760] from by decide)
            have k0_ := f 256 0 (show 4097 ∉ [5312, 5376, 4123, 5440, 5504, 5568, 5632, 5696, 5760] from by decide)
            refine x_callV k174_119 (y := 171) (n := 2) (w0 := 1) (w1 := 2) (as := [vi x6, vi z1898]) (rest := [vi x5]) (by decide +kernel) (q := 256) (nq := 62) (kq := 15) ⟨by decide, rfl⟩ rfl rfl rfl rfl (xe_mono (E_X11_lacks_256 s hG (hJ0.fl f (by decide)) x6 (by first | exact x_rb b_x6 rfl rfl | exact ⟨by omega, by omega⟩) z1898 (by first | exact x_rbe e_z1898 g_z1898 rfl rfl | exact x_rb g_z1898 rfl rfl | exact ⟨by omega, by omega⟩) (pR.fl f (by decide)) (pT.fl (hG0 256 1).2 f (by decide)) (pG1.fl f (by decide)) (pG3.fl f (by decide)) (by omega) (by rw [f 55 _ (show 1024 ∉ [5312, 5376, 4123, 5440, 5504, 5568, 5632, 5696, 5760] from by decide)]; have q := (pG3.2 x6 (by omega) (by omega) (by omega)).2.2.2; omega) (by rw [show z1898 = s0 0 10 by omega]; exact FdZ.ve w_1 (FL.ve f hG0 (by decide)).sy k10_.symm k6_.symm (by omega))) ?_)
            rintro s1900 v ⟨hG_s1900, t_s1900, z1899, rfl, g_z1899, xp_z1899⟩
            have f_s1900 : FL [5312, 5376, 4123, 5440, 5504, 5568, 5632, 5696, 5760] s0 s1900 := f.tr t_s1900 (by decide)
            have q1901 : s1900 256 1 = x1000 := (t_s1900 256 1 (show 4098 ∉ [5312, 5376, 4123] from by decide)).trans e_x1000.symm
            have q1902 : s1900 256 10 = x1001 := (t_s1900 256 10 (show 4107 ∉ [5312, 5376, 4123] from by decide)).trans e_x1001.symm
            have q1903 : s1900 256 0 = z1898 := (t_s1900 256 0 (show 4097 ∉ [5312, 5376, 4123] from by decide)).trans e_z1898.symm
            have q1904 : s1900 277 x6.toNat = z1859 := (t_s1900 277 x6.toNat (show 5440 ∉ [5312, 5376, 4123] from by decide)).trans e_z1859.symm
            have q1905 : s1900 281 x6.toNat = z1893 := (t_s1900 281 x6.toNat (show 5696 ∉ [5312, 5376, 4123] from by decide)).trans e_z1893.symm
            have FDn_s1900 : FdZ s1900 s0 (s0 0 10) := FdZ.fl w_1 t_s1900 (by decide)
            show xe none 174 122 [(4, vi z1895), (3, vi z1892), (0, .ref 256), (1, vi x1), (2, vi x2), (5, vi x5), (6, vi x6)] [vi z1899, vi x5] s1900 0 0 _
            have il := xp_z1899
            rw [(FL.ve f hG0 (by decide)).la, show z1898 = s0 0 10 by omega] at il
            refine x_if_eq k174_122 (t := 129) rfl (by first | exact x_rbe e_z1899 g_z1899 rfl rfl | exact x_rb g_z1899 rfl rfl | exact ⟨by omega, by omega⟩) (fun c1906 => ?_) (fun c1906 => ?_)
            · skip
              refine x_A k174_129 (fun _ => rfl) ?_
              refine x_iadd k174_130 ?_
              refine x_top (fun z1907 e_z1907 => ?_)
              refine x_istore k174_131 (ls' := [(5, vi z1907), (4, vi z1895), (3, vi z1892), (0, .ref 256), (1, vi x1), (2, vi x2), (6, vi x6)]) (by decide) rfl ?_
              refine x_iinc k174_133 (ls' := [(6, vi (x6 + 1)), (5, vi z1907), (4, vi z1895), (3, vi z1892), (0, .ref 256), (1, vi x1), (2, vi x2)]) rfl (by decide) rfl ?_
              refine x_goto k174_136 (t := 57) rfl ?_
              refine x_ls (l := [(0, .ref 256), (1, vi x1), (2, vi x2), (3, vi z1892), (4, vi z1895), (5, vi z1907), (6, vi (x6 + 1))]) (show ([0, 1, 2, 3, 4, 5, 6] : List Nat).Nodup from by decide) ⟨rfl, rfl, rfl, rfl, rfl, rfl, rfl, trivial⟩ ?_
              exact ih s1900 x1 x2 z1892 z1895 z1907 (x6 + 1) x1000 x1001 hG_s1900 f_s1900 (by first | exact x_rb b_x1 rfl rfl | exact ⟨by omega, by omega⟩) (by first | exact x_rb b_x2 rfl rfl | exact ⟨by omega, by omega⟩) (by first | exact x_rbe e_z1892 g_z1892 rfl rfl | exact x_rb g_z1892 rfl rfl | exact ⟨by omega, by omega⟩) (by first | exact x_rbe e_z1895 g_z1895 rfl rfl | exact x_rb g_z1895 rfl rfl | exact ⟨by omega, by omega⟩) (by first | exact x_rbe e_z1907 g_z1907 rfl rfl | exact x_rb g_z1907 rfl rfl | exact ⟨by omega, by omega⟩) ⟨by omega, by omega⟩ (by first | exact x_rb b_x1000 rfl rfl | exact ⟨by omega, by omega⟩) (by first | exact x_rb b_x1001 rfl rfl | exact ⟨by omega, by omega⟩) (by omega) (by omega) (by omega) (by omega) (by omega) FDn_s1900 w_2 (by have cs := ctp_s (fun k => wrC s0 (k : Int) ≠ 0) (k := x6) (by omega); rw [show ((x6.toNat : Nat) : Int) = x6 by omega] at cs; have q := cs.1 (by omega); omega) (by have cs := ctp_s (fun k => loC s0 (s0 0 10) (k : Int)) (k := x6) (by omega); rw [show ((x6.toNat : Nat) : Int) = x6 by omega] at cs; have q := cs.2 (fun q => by have w := z281_.mpr q; omega); omega) (fun q7 => by have cs := ctp_s (fun k => laC s0 (s0 0 10) (k : Int)) (k := x6) (by omega); rw [show ((x6.toNat : Nat) : Int) = x6 by omega] at cs; have w5 := w_5 q7; have q := cs.2 (il.resolve_left (fun w => by omega)).2; omega) (q1901).symm (q1902).symm  (by omega)
            · skip
              refine x_A k174_125 (fun _ => rfl) ?_
              refine x_goto k174_126 (t := 130) rfl ?_
              refine x_iadd k174_130 ?_
              refine x_top (fun z1908 e_z1908 => ?_)
              refine x_istore k174_131 (ls' := [(5, vi z1908), (4, vi z1895), (3, vi z1892), (0, .ref 256), (1, vi x1), (2, vi x2), (6, vi x6)]) (by decide) rfl ?_
              refine x_iinc k174_133 (ls' := [(6, vi (x6 + 1)), (5, vi z1908), (4, vi z1895), (3, vi z1892), (0, .ref 256), (1, vi x1), (2, vi x2)]) rfl (by decide) rfl ?_
              refine x_goto k174_136 (t := 57) rfl ?_
              refine x_ls (l := [(0, .ref 256), (1, vi x1), (2, vi x2), (3, vi z1892), (4, vi z1895), (5, vi z1908), (6, vi (x6 + 1))]) (show ([0, 1, 2, 3, 4, 5, 6] : List Nat).Nodup from by decide) ⟨rfl, rfl, rfl, rfl, rfl, rfl, rfl, trivial⟩ ?_
              exact ih s1900 x1 x2 z1892 z1895 z1908 (x6 + 1) x1000 x1001 hG_s1900 f_s1900 (by first | exact x_rb b_x1 rfl rfl | exact ⟨by omega, by omega⟩) (by first | exact x_rb b_x2 rfl rfl | exact ⟨by omega, by omega⟩) (by first | exact x_rbe e_z1892 g_z1892 rfl rfl | exact x_rb g_z1892 rfl rfl | exact ⟨by omega, by omega⟩) (by first | exact x_rbe e_z1895 g_z1895 rfl rfl | exact x_rb g_z1895 rfl rfl | exact ⟨by omega, by omega⟩) (by first | exact x_rbe e_z1908 g_z1908 rfl rfl | exact x_rb g_z1908 rfl rfl | exact ⟨by omega, by omega⟩) ⟨by omega, by omega⟩ (by first | exact x_rb b_x1000 rfl rfl | exact ⟨by omega, by omega⟩) (by first | exact x_rb b_x1001 rfl rfl | exact ⟨by omega, by omega⟩) (by omega) (by omega) (by omega) (by omega) (by omega) FDn_s1900 w_2 (by have cs := ctp_s (fun k => wrC s0 (k : Int) ≠ 0) (k := x6) (by omega); rw [show ((x6.toNat : Nat) : Int) = x6 by omega] at cs; have q := cs.1 (by omega); omega) (by have cs := ctp_s (fun k => loC s0 (s0 0 10) (k : Int)) (k := x6) (by omega); rw [show ((x6.toNat : Nat) : Int) = x6 by omega] at cs; have q := cs.2 (fun q => by have w := z281_.mpr q; omega); omega) (fun q7 => by have cs := ctp_s (fun k => laC s0 (s0 0 10) (k : Int)) (k := x6) (by omega); rw [show ((x6.toNat : Nat) : Int) = x6 by omega] at cs; have w5 := w_5 q7; have q := cs.1 (il.resolve_right (fun w => by omega)).2; omega) (q1901).symm (q1902).symm  (by omega)
        · skip
          refine x_A k174_96 (fun _ => rfl) ?_
          refine x_goto k174_97 (t := 101) rfl ?_
          refine x_iadd k174_101 ?_
          refine x_top (fun z1909 e_z1909 => ?_)
          refine x_istore k174_102 (ls' := [(4, vi z1909), (3, vi z1892), (0, .ref 256), (1, vi x1), (2, vi x2), (5, vi x5), (6, vi x6)]) (by decide) rfl ?_
          refine x_A k174_104 (fun _ => rfl) ?_
          refine x_A k174_106 (fun _ => rfl) ?_
          refine x_bipush k174_107 (by decide +kernel) ?_
          refine x_ic_ne k174_109 (t := 129) rfl (by first | exact x_rb b_x1 rfl rfl | exact ⟨by omega, by omega⟩) ⟨by decide, by decide⟩ (fun c1910 => ?_) (fun c1910 => ?_)
          · skip
            refine x_A k174_129 (fun _ => rfl) ?_
            refine x_iadd k174_130 ?_
            refine x_top (fun z1911 e_z1911 => ?_)
            refine x_istore k174_131 (ls' := [(5, vi z1911), (4, vi z1909), (3, vi z1892), (0, .ref 256), (1, vi x1), (2, vi x2), (6, vi x6)]) (by decide) rfl ?_
            refine x_iinc k174_133 (ls' := [(6, vi (x6 + 1)), (5, vi z1911), (4, vi z1909), (3, vi z1892), (0, .ref 256), (1, vi x1), (2, vi x2)]) rfl (by decide) rfl ?_
            refine x_goto k174_136 (t := 57) rfl ?_
            refine x_ls (l := [(0, .ref 256), (1, vi x1), (2, vi x2), (3, vi z1892), (4, vi z1909), (5, vi z1911), (6, vi (x6 + 1))]) (show ([0, 1, 2, 3, 4, 5, 6] : List Nat).Nodup from by decide) ⟨rfl, rfl, rfl, rfl, rfl, rfl, rfl, trivial⟩ ?_
            exact ih s x1 x2 z1892 z1909 z1911 (x6 + 1) x1000 x1001 hG f (by first | exact x_rb b_x1 rfl rfl | exact ⟨by omega, by omega⟩) (by first | exact x_rb b_x2 rfl rfl | exact ⟨by omega, by omega⟩) (by first | exact x_rbe e_z1892 g_z1892 rfl rfl | exact x_rb g_z1892 rfl rfl | exact ⟨by omega, by omega⟩) (by first | exact x_rbe e_z1909 g_z1909 rfl rfl | exact x_rb g_z1909 rfl rfl | exact ⟨by omega, by omega⟩) (by first | exact x_rbe e_z1911 g_z1911 rfl rfl | exact x_rb g_z1911 rfl rfl | exact ⟨by omega, by omega⟩) ⟨by omega, by omega⟩ (by first | exact x_rb b_x1000 rfl rfl | exact ⟨by omega, by omega⟩) (by first | exact x_rb b_x1001 rfl rfl | exact ⟨by omega, by omega⟩) (by omega) (by omega) (by omega) (by omega) (by omega) w_1 w_2 (by have cs := ctp_s (fun k => wrC s0 (k : Int) ≠ 0) (k := x6) (by omega); rw [show ((x6.toNat : Nat) : Int) = x6 by omega] at cs; have q := cs.1 (by omega); omega) (by have cs := ctp_s (fun k => loC s0 (s0 0 10) (k : Int)) (k := x6) (by omega); rw [show ((x6.toNat : Nat) : Int) = x6 by omega] at cs; have q := cs.1 (z281_.mp (by omega)); omega) (fun q => by exfalso; omega) (e_x1000.symm).symm (e_x1001.symm).symm  (by omega)
          · skip
            refine x_A k174_112 (fun _ => rfl) ?_
            refine x_A k174_113 (fun _ => rfl) ?_
            refine x_A k174_115 (fun _ => rfl) ?_
            refine x_getI k174_116 (f := 0) rfl (q := 256) (n := 62) (kd := 15) ⟨by decide, rfl⟩ (by decide) rfl ?_
            refine x_top (fun z1912 e_z1912 => ?_)
            have g_z1912 : (0 : Int) ≤ s 256 0 ∧ s 256 0 ≤ 9 := hG 256 0
            have t0_ := pT.1.1
            have pg_ := pG1.1
            have pg3_ := pG3.1
            have k10_ := f 256 10 (show 4107 ∉ [5312, 5376, 4123, 5440, 5504, 5568, 5632, 5696, 5760] from by decide)
            have k6_ := f 256 6 (show 4103 ∉ [5312, 5376, 4123, 5440, 5504, 5568, 5632, 5696, 5760] from by decide)
            have k506_ := f 50 6 (show 711 ∉ [5312, 5376, 4123, 5440, 5504, 5568, 5632, 5696, 5760] from by decide)
            have k0_ := f 256 0 (show 4097 ∉ [5312, 5376, 4123, 5440, 5504, 5568, 5632, 5696, 5760] from by decide)
            refine x_callV k174_119 (y := 171) (n := 2) (w0 := 1) (w1 := 2) (as := [vi x6, vi z1912]) (rest := [vi x5]) (by decide +kernel) (q := 256) (nq := 62) (kq := 15) ⟨by decide, rfl⟩ rfl rfl rfl rfl (xe_mono (E_X11_lacks_256 s hG (hJ0.fl f (by decide)) x6 (by first | exact x_rb b_x6 rfl rfl | exact ⟨by omega, by omega⟩) z1912 (by first | exact x_rbe e_z1912 g_z1912 rfl rfl | exact x_rb g_z1912 rfl rfl | exact ⟨by omega, by omega⟩) (pR.fl f (by decide)) (pT.fl (hG0 256 1).2 f (by decide)) (pG1.fl f (by decide)) (pG3.fl f (by decide)) (by omega) (by rw [f 55 _ (show 1024 ∉ [5312, 5376, 4123, 5440, 5504, 5568, 5632, 5696, 5760] from by decide)]; have q := (pG3.2 x6 (by omega) (by omega) (by omega)).2.2.2; omega) (by rw [show z1912 = s0 0 10 by omega]; exact FdZ.ve w_1 (FL.ve f hG0 (by decide)).sy k10_.symm k6_.symm (by omega))) ?_)
            rintro s1914 v ⟨hG_s1914, t_s1914, z1913, rfl, g_z1913, xp_z1913⟩
            have f_s1914 : FL [5312, 5376, 4123, 5440, 5504, 5568, 5632, 5696, 5760] s0 s1914 := f.tr t_s1914 (by decide)
            have q1915 : s1914 256 1 = x1000 := (t_s1914 256 1 (show 4098 ∉ [5312, 5376, 4123] from by decide)).trans e_x1000.symm
            have q1916 : s1914 256 10 = x1001 := (t_s1914 256 10 (show 4107 ∉ [5312, 5376, 4123] from by decide)).trans e_x1001.symm
            have q1917 : s1914 256 0 = z1912 := (t_s1914 256 0 (show 4097 ∉ [5312, 5376, 4123] from by decide)).trans e_z1912.symm
            have q1918 : s1914 277 x6.toNat = z1859 := (t_s1914 277 x6.toNat (show 5440 ∉ [5312, 5376, 4123] from by decide)).trans e_z1859.symm
            have q1919 : s1914 281 x6.toNat = z1893 := (t_s1914 281 x6.toNat (show 5696 ∉ [5312, 5376, 4123] from by decide)).trans e_z1893.symm
            have FDn_s1914 : FdZ s1914 s0 (s0 0 10) := FdZ.fl w_1 t_s1914 (by decide)
            show xe none 174 122 [(4, vi z1909), (3, vi z1892), (0, .ref 256), (1, vi x1), (2, vi x2), (5, vi x5), (6, vi x6)] [vi z1913, vi x5] s1914 0 0 _
            have il := xp_z1913
            rw [(FL.ve f hG0 (by decide)).la, show z1912 = s0 0 10 by omega] at il
            refine x_if_eq k174_122 (t := 129) rfl (by first | exact x_rbe e_z1913 g_z1913 rfl rfl | exact x_rb g_z1913 rfl rfl | exact ⟨by omega, by omega⟩) (fun c1920 => ?_) (fun c1920 => ?_)
            · skip
              refine x_A k174_129 (fun _ => rfl) ?_
              refine x_iadd k174_130 ?_
              refine x_top (fun z1921 e_z1921 => ?_)
              refine x_istore k174_131 (ls' := [(5, vi z1921), (4, vi z1909), (3, vi z1892), (0, .ref 256), (1, vi x1), (2, vi x2), (6, vi x6)]) (by decide) rfl ?_
              refine x_iinc k174_133 (ls' := [(6, vi (x6 + 1)), (5, vi z1921), (4, vi z1909), (3, vi z1892), (0, .ref 256), (1, vi x1), (2, vi x2)]) rfl (by decide) rfl ?_
              refine x_goto k174_136 (t := 57) rfl ?_
              refine x_ls (l := [(0, .ref 256), (1, vi x1), (2, vi x2), (3, vi z1892), (4, vi z1909), (5, vi z1921), (6, vi (x6 + 1))]) (show ([0, 1, 2, 3, 4, 5, 6] : List Nat).Nodup from by decide) ⟨rfl, rfl, rfl, rfl, rfl, rfl, rfl, trivial⟩ ?_
              exact ih s1914 x1 x2 z1892 z1909 z1921 (x6 + 1) x1000 x1001 hG_s1914 f_s1914 (by first | exact x_rb b_x1 rfl rfl | exact ⟨by omega, by omega⟩) (by first | exact x_rb b_x2 rfl rfl | exact ⟨by omega, by omega⟩) (by first | exact x_rbe e_z1892 g_z1892 rfl rfl | exact x_rb g_z1892 rfl rfl | exact ⟨by omega, by omega⟩) (by first | exact x_rbe e_z1909 g_z1909 rfl rfl | exact x_rb g_z1909 rfl rfl | exact ⟨by omega, by omega⟩) (by first | exact x_rbe e_z1921 g_z1921 rfl rfl | exact x_rb g_z1921 rfl rfl | exact ⟨by omega, by omega⟩) ⟨by omega, by omega⟩ (by first | exact x_rb b_x1000 rfl rfl | exact ⟨by omega, by omega⟩) (by first | exact x_rb b_x1001 rfl rfl | exact ⟨by omega, by omega⟩) (by omega) (by omega) (by omega) (by omega) (by omega) FDn_s1914 w_2 (by have cs := ctp_s (fun k => wrC s0 (k : Int) ≠ 0) (k := x6) (by omega); rw [show ((x6.toNat : Nat) : Int) = x6 by omega] at cs; have q := cs.1 (by omega); omega) (by have cs := ctp_s (fun k => loC s0 (s0 0 10) (k : Int)) (k := x6) (by omega); rw [show ((x6.toNat : Nat) : Int) = x6 by omega] at cs; have q := cs.1 (z281_.mp (by omega)); omega) (fun q7 => by have cs := ctp_s (fun k => laC s0 (s0 0 10) (k : Int)) (k := x6) (by omega); rw [show ((x6.toNat : Nat) : Int) = x6 by omega] at cs; have w5 := w_5 q7; have q := cs.2 (il.resolve_left (fun w => by omega)).2; omega) (q1915).symm (q1916).symm  (by omega)
            · skip
              refine x_A k174_125 (fun _ => rfl) ?_
              refine x_goto k174_126 (t := 130) rfl ?_
              refine x_iadd k174_130 ?_
              refine x_top (fun z1922 e_z1922 => ?_)
              refine x_istore k174_131 (ls' := [(5, vi z1922), (4, vi z1909), (3, vi z1892), (0, .ref 256), (1, vi x1), (2, vi x2), (6, vi x6)]) (by decide) rfl ?_
              refine x_iinc k174_133 (ls' := [(6, vi (x6 + 1)), (5, vi z1922), (4, vi z1909), (3, vi z1892), (0, .ref 256), (1, vi x1), (2, vi x2)]) rfl (by decide) rfl ?_
              refine x_goto k174_136 (t := 57) rfl ?_
              refine x_ls (l := [(0, .ref 256), (1, vi x1), (2, vi x2), (3, vi z1892), (4, vi z1909), (5, vi z1922), (6, vi (x6 + 1))]) (show ([0, 1, 2, 3, 4, 5, 6] : List Nat).Nodup from by decide) ⟨rfl, rfl, rfl, rfl, rfl, rfl, rfl, trivial⟩ ?_
              exact ih s1914 x1 x2 z1892 z1909 z1922 (x6 + 1) x1000 x1001 hG_s1914 f_s1914 (by first | exact x_rb b_x1 rfl rfl | exact ⟨by omega, by omega⟩) (by first | exact x_rb b_x2 rfl rfl | exact ⟨by omega, by omega⟩) (by first | exact x_rbe e_z1892 g_z1892 rfl rfl | exact x_rb g_z1892 rfl rfl | exact ⟨by omega, by omega⟩) (by first | exact x_rbe e_z1909 g_z1909 rfl rfl | exact x_rb g_z1909 rfl rfl | exact ⟨by omega, by omega⟩) (by first | exact x_rbe e_z1922 g_z1922 rfl rfl | exact x_rb g_z1922 rfl rfl | exact ⟨by omega, by omega⟩) ⟨by omega, by omega⟩ (by first | exact x_rb b_x1000 rfl rfl | exact ⟨by omega, by omega⟩) (by first | exact x_rb b_x1001 rfl rfl | exact ⟨by omega, by omega⟩) (by omega) (by omega) (by omega) (by omega) (by omega) FDn_s1914 w_2 (by have cs := ctp_s (fun k => wrC s0 (k : Int) ≠ 0) (k := x6) (by omega); rw [show ((x6.toNat : Nat) : Int) = x6 by omega] at cs; have q := cs.1 (by omega); omega) (by have cs := ctp_s (fun k => loC s0 (s0 0 10) (k : Int)) (k := x6) (by omega); rw [show ((x6.toNat : Nat) : Int) = x6 by omega] at cs; have q := cs.1 (z281_.mp (by omega)); omega) (fun q7 => by have cs := ctp_s (fun k => laC s0 (s0 0 10) (k : Int)) (k := x6) (by omega); rw [show ((x6.toNat : Nat) : Int) = x6 by omega] at cs; have w5 := w_5 q7; have q := cs.1 (il.resolve_right (fun w => by omega)).2; omega) (q1915).symm (q1916).symm  (by omega)
set_option maxHeartbeats 8000000 in
theorem L_W_X11_count_256_12 (s0 : xS) (hJ0 : J s0) (hG0 : GI s0) (a : Int) (b_a : (-2147483648) ≤ a ∧ a ≤ 2147483647) (pR : R1 s0) (pT : TR s0) (pG1 : G1 s0) (pG3 : G3 s0) (pX : X1 s0) (pW : W1 s0) (pS : s0 231 3 = s0 256 58)  : ∀ (n : Nat) (s : xS) (x1 : Int) (x2 : Int) (x3 : Int) (x1000 : Int) (x1001 : Int) (hG : GI s) (f : FL [5312, 5376, 4123, 5440, 5504, 5568, 5632, 5696, 5760] s0 s) (b_x1 : (-2147483648) ≤ x1 ∧ x1 ≤ 2147483647) (b_x2 : 0 ≤ x2 ∧ x2 ≤ 60) (b_x3 : 0 ≤ x3 ∧ x3 ≤ 40) (b_x1000 : 1 ≤ x1000 ∧ x1000 ≤ 40) (b_x1001 : 0 ≤ x1001 ∧ x1001 ≤ 120) (r_2_3 : x2 ≤ x3 + 0) (r_3_1000 : x3 ≤ x1000 + 0) (w_0 : x1 = a ∧ x1000 = s0 256 1 ∧ x1001 = s0 256 10 ∧ x3 ≤ x1000 ∧ x2 ≤ x3) (w_1 : FdZ s s0 (s0 0 10)) (w_2 : x2 = ctp (fun k => thC s0 (s0 0 10) (k : Int)) x3.toNat) (e_x1000 : x1000 = s 256 1) (e_x1001 : x1001 = s 256 10)  (hm : (40 - x3) < (n : Int)), xe none 174 12 [(0, .ref 256), (1, vi x1), (2, vi x2), (3, vi x3)] [] s 0 0 (fun s' v => GI s' ∧ FL [5312, 5376, 4123, 5440, 5504, 5568, 5632, 5696, 5760] s0 s' ∧ ∃ z, v = some (vi z) ∧ ((-2147483648) ≤ z ∧ z ≤ 2147483647) ∧ (CoS s0 a z)) := by
  intro n
  induction n with
  | zero => intro s x1 x2 x3 x1000 x1001 hG f b_x1 b_x2 b_x3 b_x1000 b_x1001 r_2_3 r_3_1000 w_0 w_1 w_2 e_x1000 e_x1001  hm; exfalso; omega
  | succ n ih =>
    intro s x1 x2 x3 x1000 x1001 hG f b_x1 b_x2 b_x3 b_x1000 b_x1001 r_2_3 r_3_1000 w_0 w_1 w_2 e_x1000 e_x1001  hm
    refine x_A k174_12 (fun _ => rfl) ?_
    refine x_A k174_13 (fun _ => rfl) ?_
    refine x_getI k174_14 (f := 1) rfl (q := 256) (n := 62) (kd := 15) ⟨by decide, rfl⟩ (by decide) rfl ?_
    refine x_rw (e_x1000.symm) ?_
    refine x_ic_ge k174_17 (t := 46) rfl (by first | exact x_rb b_x3 rfl rfl | exact ⟨by omega, by omega⟩) (by first | exact x_rb b_x1000 rfl rfl | exact ⟨by omega, by omega⟩) (fun c1923 => ?_) (fun c1923 => ?_)
    · skip
      refine x_A k174_46 (fun _ => rfl) ?_
      refine x_istore_n k174_47 (ls' := [(3, vi 0), (0, .ref 256), (1, vi x1), (2, vi x2)]) (by decide) rfl ?_
      refine x_A k174_48 (fun _ => rfl) ?_
      refine x_istore k174_49 (ls' := [(4, vi 0), (3, vi 0), (0, .ref 256), (1, vi x1), (2, vi x2)]) (by decide) rfl ?_
      refine x_A k174_51 (fun _ => rfl) ?_
      refine x_istore k174_52 (ls' := [(5, vi 0), (4, vi 0), (3, vi 0), (0, .ref 256), (1, vi x1), (2, vi x2)]) (by decide) rfl ?_
      refine x_A k174_54 (fun _ => rfl) ?_
      refine x_istore k174_55 (ls' := [(6, vi 0), (5, vi 0), (4, vi 0), (3, vi 0), (0, .ref 256), (1, vi x1), (2, vi x2)]) (by decide) rfl ?_
      refine x_ls (l := [(0, .ref 256), (1, vi x1), (2, vi x2), (3, vi 0), (4, vi 0), (5, vi 0), (6, vi 0)]) (show ([0, 1, 2, 3, 4, 5, 6] : List Nat).Nodup from by decide) ⟨rfl, rfl, rfl, rfl, rfl, rfl, rfl, trivial⟩ ?_
      exact L_W_X11_count_256_57 s0 hJ0 hG0 a b_a pR pT pG1 pG3 pX pW pS  (((120 - 0) + 1 : Int)).toNat s x1 x2 0 0 0 0 x1000 x1001 hG f (by first | exact x_rb b_x1 rfl rfl | exact ⟨by omega, by omega⟩) (by first | exact x_rb b_x2 rfl rfl | exact ⟨by omega, by omega⟩) ⟨by decide, by decide⟩ ⟨by decide, by decide⟩ ⟨by decide, by decide⟩ ⟨by decide, by decide⟩ (by first | exact x_rb b_x1000 rfl rfl | exact ⟨by omega, by omega⟩) (by first | exact x_rb b_x1001 rfl rfl | exact ⟨by omega, by omega⟩) (by omega) (by omega) (by omega) (by omega) (by omega) w_1 (by rw [show (s0 256 1).toNat = x3.toNat by omega]; exact w_2) (show _ = _ from rfl) (show _ = _ from rfl) (fun _ => (show _ = _ from rfl)) (e_x1000.symm).symm (e_x1001.symm).symm  (by omega)
    · skip
      refine x_A k174_20 (fun _ => rfl) ?_
      refine x_A k174_21 (fun _ => rfl) ?_
      refine x_A k174_22 (fun _ => rfl) ?_
      refine x_A k174_23 (fun _ => rfl) ?_
      refine x_getI k174_24 (f := 0) rfl (q := 256) (n := 62) (kd := 15) ⟨by decide, rfl⟩ (by decide) rfl ?_
      refine x_top (fun z1924 e_z1924 => ?_)
      have g_z1924 : (0 : Int) ≤ s 256 0 ∧ s 256 0 ≤ 9 := hG 256 0
      refine x_callV k174_27 (y := 142) (n := 2) (w0 := 1) (w1 := 2) (as := [vi x3, vi z1924]) (rest := [vi x2]) (by decide +kernel) (q := 256) (nq := 62) (kq := 15) ⟨by decide, rfl⟩ rfl rfl rfl rfl (xe_mono (C_X11_isThere_256 s hG x3 (by first | exact x_rb b_x3 rfl rfl | exact ⟨by omega, by omega⟩) z1924 (by first | exact x_rbe e_z1924 g_z1924 rfl rfl | exact x_rb g_z1924 rfl rfl | exact ⟨by omega, by omega⟩)) ?_)
      rintro s1926 v ⟨h_s1926, z1925, rfl, hz_z1925⟩
      rw [h_s1926]
      rcases hz_z1925 with ⟨c_z1925, e_z1925, m_z1925⟩ | ⟨e_z1925, m_z1925⟩
      · rw [e_z1925]
        show xe none 174 30 [(0, .ref 256), (1, vi x1), (2, vi x2), (3, vi x3)] [vi 1, vi x2] s 0 0 _
        have f57_ := f 257 x3.toNat (show 4160 ∉ [5312, 5376, 4123, 5440, 5504, 5568, 5632, 5696, 5760] from by decide)
        have f58_ := f 258 x3.toNat (show 4224 ∉ [5312, 5376, 4123, 5440, 5504, 5568, 5632, 5696, 5760] from by decide)
        have f1_ := f 256 1 (show 4098 ∉ [5312, 5376, 4123, 5440, 5504, 5568, 5632, 5696, 5760] from by decide)
        have f0_ := f 256 0 (show 4097 ∉ [5312, 5376, 4123, 5440, 5504, 5568, 5632, 5696, 5760] from by decide)
        have t0_ := pT.1.1
        have th : thC s0 (s0 0 10) x3 := (pT.1.th hG0 _ _).mpr ⟨⟨by omega, by omega⟩, by omega, by omega⟩
        refine x_if_eq k174_30 (t := 37) rfl ⟨by decide, by decide⟩ (fun c1927 => by exfalso; omega) (fun c1927 => ?_)
        refine x_A k174_33 (fun _ => rfl) ?_
        refine x_goto k174_34 (t := 38) rfl ?_
        refine x_iadd k174_38 ?_
        refine x_top (fun z1928 e_z1928 => ?_)
        refine x_istore_n k174_39 (ls' := [(2, vi z1928), (0, .ref 256), (1, vi x1), (3, vi x3)]) (by decide) rfl ?_
        refine x_iinc k174_40 (ls' := [(3, vi (x3 + 1)), (2, vi z1928), (0, .ref 256), (1, vi x1)]) rfl (by decide) rfl ?_
        refine x_goto k174_43 (t := 12) rfl ?_
        refine x_ls (l := [(0, .ref 256), (1, vi x1), (2, vi z1928), (3, vi (x3 + 1))]) (show ([0, 1, 2, 3] : List Nat).Nodup from by decide) ⟨rfl, rfl, rfl, rfl, trivial⟩ ?_
        exact ih s x1 z1928 (x3 + 1) x1000 x1001 hG f (by first | exact x_rb b_x1 rfl rfl | exact ⟨by omega, by omega⟩) (by first | exact x_rbe e_z1928 g_z1928 rfl rfl | exact x_rb g_z1928 rfl rfl | exact ⟨by omega, by omega⟩) ⟨by omega, by omega⟩ (by first | exact x_rb b_x1000 rfl rfl | exact ⟨by omega, by omega⟩) (by first | exact x_rb b_x1001 rfl rfl | exact ⟨by omega, by omega⟩) (by omega) (by omega) (by omega) w_1 (by have cs := ctp_s (fun k => thC s0 (s0 0 10) (k : Int)) (k := x3) (by omega); rw [show ((x3.toNat : Nat) : Int) = x3 by omega] at cs; have q := cs.1 (th); omega) (e_x1000.symm).symm (e_x1001.symm).symm  (by omega)
      · rw [e_z1925]
        show xe none 174 30 [(0, .ref 256), (1, vi x1), (2, vi x2), (3, vi x3)] [vi 0, vi x2] s 0 0 _
        have f57_ := f 257 x3.toNat (show 4160 ∉ [5312, 5376, 4123, 5440, 5504, 5568, 5632, 5696, 5760] from by decide)
        have f58_ := f 258 x3.toNat (show 4224 ∉ [5312, 5376, 4123, 5440, 5504, 5568, 5632, 5696, 5760] from by decide)
        have f1_ := f 256 1 (show 4098 ∉ [5312, 5376, 4123, 5440, 5504, 5568, 5632, 5696, 5760] from by decide)
        have f0_ := f 256 0 (show 4097 ∉ [5312, 5376, 4123, 5440, 5504, 5568, 5632, 5696, 5760] from by decide)
        have t0_ := pT.1.1
        have nth : ¬ thC s0 (s0 0 10) x3 := fun q => by have w := (pT.1.th hG0 _ _).mp q; omega
        refine x_if_eq k174_30 (t := 37) rfl ⟨by decide, by decide⟩ (fun c1929 => ?_) (fun c1929 => by exfalso; omega)
        refine x_A k174_37 (fun _ => rfl) ?_
        refine x_iadd k174_38 ?_
        refine x_top (fun z1930 e_z1930 => ?_)
        refine x_istore_n k174_39 (ls' := [(2, vi z1930), (0, .ref 256), (1, vi x1), (3, vi x3)]) (by decide) rfl ?_
        refine x_iinc k174_40 (ls' := [(3, vi (x3 + 1)), (2, vi z1930), (0, .ref 256), (1, vi x1)]) rfl (by decide) rfl ?_
        refine x_goto k174_43 (t := 12) rfl ?_
        refine x_ls (l := [(0, .ref 256), (1, vi x1), (2, vi z1930), (3, vi (x3 + 1))]) (show ([0, 1, 2, 3] : List Nat).Nodup from by decide) ⟨rfl, rfl, rfl, rfl, trivial⟩ ?_
        exact ih s x1 z1930 (x3 + 1) x1000 x1001 hG f (by first | exact x_rb b_x1 rfl rfl | exact ⟨by omega, by omega⟩) (by first | exact x_rbe e_z1930 g_z1930 rfl rfl | exact x_rb g_z1930 rfl rfl | exact ⟨by omega, by omega⟩) ⟨by omega, by omega⟩ (by first | exact x_rb b_x1000 rfl rfl | exact ⟨by omega, by omega⟩) (by first | exact x_rb b_x1001 rfl rfl | exact ⟨by omega, by omega⟩) (by omega) (by omega) (by omega) w_1 (by have cs := ctp_s (fun k => thC s0 (s0 0 10) (k : Int)) (k := x3) (by omega); rw [show ((x3.toNat : Nat) : Int) = x3 by omega] at cs; have q := cs.2 (nth); omega) (e_x1000.symm).symm (e_x1001.symm).symm  (by omega)
set_option maxHeartbeats 8000000 in
theorem W_X11_count_256 (s0 : xS) (hG0 : GI s0) (hJ0 : J s0) (a : Int) (b_a : (-2147483648) ≤ a ∧ a ≤ 2147483647) (p_256_0 : 0 ≤ s0 256 0 ∧ s0 256 0 ≤ 9) (pR : R1 s0) (pT : TR s0) (pG1 : G1 s0) (pG3 : G3 s0) (pX : X1 s0) (pW : W1 s0) (pS : s0 231 3 = s0 256 58) : xe none 174 0 (lv_args 0 [.ref 256, vi a]) [] s0 0 0 (fun s' v => GI s' ∧ FL [5312, 5376, 4123, 5440, 5504, 5568, 5632, 5696, 5760] s0 s' ∧ ∃ z, v = some (vi z) ∧ ((-2147483648) ≤ z ∧ z ≤ 2147483647) ∧ (CoS s0 a z)) := by
  have f0 : FL [5312, 5376, 4123, 5440, 5504, 5568, 5632, 5696, 5760] s0 s0 := FL.rf
  show xe none 174 0 [(0, .ref 256), (1, vi a)] [] s0 0 0 _
  obtain ⟨z1931, e_z1931⟩ : ∃ z, z = s0 256 0 := ⟨_, rfl⟩
  have g_z1931 : (0 : Int) ≤ s0 256 0 ∧ s0 256 0 ≤ 9 := hG0 256 0
  refine x_A k174_0 (fun _ => rfl) ?_
  refine x_A k174_1 (fun _ => rfl) ?_
  refine x_getI k174_2 (f := 0) rfl (q := 256) (n := 62) (kd := 15) ⟨by decide, rfl⟩ (by decide) rfl ?_
  refine x_rw (e_z1931.symm) ?_
  refine x_callV k174_5 (y := 168) (n := 1) (w0 := 0) (w1 := 1) (as := [vi z1931]) (rest := []) (by decide +kernel) (q := 256) (nq := 62) (kq := 15) ⟨by decide, rfl⟩ rfl rfl rfl rfl (xe_mono (E_X11_find_256 s0 hG0 (hJ0.fl f0 (by decide)) z1931 (by first | exact x_rbe e_z1931 g_z1931 rfl rfl | exact x_rb g_z1931 rfl rfl | exact ⟨by omega, by omega⟩) (pR.fl f0 (by decide)) (pT.fl (hG0 256 1).2 f0 (by decide)) (pG1.fl f0 (by decide)) (pG3.fl f0 (by decide))) ?_)
  rintro s1933 v ⟨hG_s1933, t_s1933, rfl, xp_z1932⟩
  have f_s1933 : FL [5312, 5376, 4123, 5440, 5504, 5568, 5632, 5696, 5760] s0 s1933 := f0.tr t_s1933 (by decide)
  have q1934 : s1933 256 0 = z1931 := (t_s1933 256 0 (show 4097 ∉ [5312, 5376, 4123, 5440, 5504, 5568, 5632, 5696, 5760] from by decide)).trans e_z1931.symm
  show xe none 174 8 [(0, .ref 256), (1, vi a)] [] s1933 0 0 _
  have t0_ := pT.1.1
  have fd_ : FdZ s1933 s0 (s0 0 10) := by rw [show s0 0 10 = z1931 by omega]; exact xp_z1932
  have e0_ : s1933 256 0 = s0 256 0 := f_s1933 256 0 (show 4097 ∉ [5312, 5376, 4123, 5440, 5504, 5568, 5632, 5696, 5760] from by decide)
  have e1_ : s1933 256 1 = s0 256 1 := f_s1933 256 1 (show 4098 ∉ [5312, 5376, 4123, 5440, 5504, 5568, 5632, 5696, 5760] from by decide)
  have e10_ : s1933 256 10 = s0 256 10 := f_s1933 256 10 (show 4107 ∉ [5312, 5376, 4123, 5440, 5504, 5568, 5632, 5696, 5760] from by decide)
  refine x_A k174_8 (fun _ => rfl) ?_
  refine x_istore_n k174_9 (ls' := [(2, vi 0), (0, .ref 256), (1, vi a)]) (by decide) rfl ?_
  refine x_A k174_10 (fun _ => rfl) ?_
  refine x_istore_n k174_11 (ls' := [(3, vi 0), (2, vi 0), (0, .ref 256), (1, vi a)]) (by decide) rfl ?_
  obtain ⟨z1935, e_z1935⟩ : ∃ z, z = s1933 256 1 := ⟨_, rfl⟩
  have g_z1935 : (1 : Int) ≤ s1933 256 1 ∧ s1933 256 1 ≤ 40 := hG_s1933 256 1
  obtain ⟨z1936, e_z1936⟩ : ∃ z, z = s1933 256 10 := ⟨_, rfl⟩
  have g_z1936 : (0 : Int) ≤ s1933 256 10 ∧ s1933 256 10 ≤ 120 := hG_s1933 256 10
  refine x_ls (l := [(0, .ref 256), (1, vi a), (2, vi 0), (3, vi 0)]) (show ([0, 1, 2, 3] : List Nat).Nodup from by decide) ⟨rfl, rfl, rfl, rfl, trivial⟩ ?_
  exact L_W_X11_count_256_12 s0 hJ0 hG0 a b_a pR pT pG1 pG3 pX pW pS  (((40 - 0) + 1 : Int)).toNat s1933 a 0 0 z1935 z1936 hG_s1933 f_s1933 (by first | exact x_rb b_a rfl rfl | exact ⟨by omega, by omega⟩) ⟨by decide, by decide⟩ ⟨by decide, by decide⟩ (by first | exact x_rbe e_z1935 g_z1935 rfl rfl | exact x_rb g_z1935 rfl rfl | exact ⟨by omega, by omega⟩) (by first | exact x_rbe e_z1936 g_z1936 rfl rfl | exact x_rb g_z1936 rfl rfl | exact ⟨by omega, by omega⟩) (by omega) (by omega) (by omega) fd_ (show _ = _ from rfl) (e_z1935.symm).symm (e_z1936.symm).symm  (by omega)
