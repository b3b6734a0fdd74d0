set_option maxHeartbeats 8000000 in
theorem law_loop (N : Nat) (xs : Nat → Int32) (hN : N ≤ 3584)  : ∀ (n : Nat) (s : xS) (x3 : Int) (hG : GI s) (f : True) (b_x3 : 0 ≤ x3 ∧ x3 ≤ 3584) (i_J : J s) (i_T0 : T0 s) (i_W1 : W1 s)  (hm : (3584 - x3) < (n : Int)), xe (some (N, xs)) 231 18 [(0, .ref 2000), (1, .ref 0), (2, .ref 256), (3, vi x3)] [] s 295 10442 (fun _ v => v = some (vi 1)) := by
  intro n
  induction n with
  | zero => intro s x3 hG f b_x3 i_J i_T0 i_W1  hm; exfalso; omega
  | succ n ih =>
    intro s x3 hG f b_x3 i_J i_T0 i_W1  hm
    refine x_A k231_18 (fun _ => rfl) ?_
    refine x_A k231_19 (fun _ => rfl) ?_
    refine x_slen k231_20 ?_
    refine x_bipush k231_21 (by decide +kernel) ?_
    refine x_isub k231_23 ?_
    refine x_top (fun z1 e_z1 => ?_)
    refine x_ic_gt k231_24 (t := 1306) rfl ⟨by omega, by omega⟩ ⟨by omega, by omega⟩ (fun c2 => ?_) (fun c2 => ?_)
    · skip
      refine x_A k231_1306 (fun _ => rfl) ?_
      exact x_zret k231_1307 rfl ⟨by omega, by omega⟩ rfl
    · skip
      refine x_A k231_27 (fun _ => rfl) ?_
      refine x_A k231_28 (fun _ => rfl) ?_
      refine x_scr k231_29 hN ⟨by omega, by omega⟩ (fun z3 g_z3 e_z3 => ?_)
      unfold in32 at g_z3
      refine x_bipush k231_30 (by decide +kernel) ?_
      refine x_and_mask k231_32 ⟨by omega, by omega⟩ (fun z4 g_z4 => ?_)
      have c5 : z4 = 0 ∨ z4 = 1 ∨ z4 = 2 ∨ z4 = 3 ∨ z4 = 4 ∨ z4 = 5 ∨ z4 = 6 ∨ z4 = 7 ∨ z4 = 8 ∨ z4 = 9 ∨ z4 = 10 ∨ z4 = 11 ∨ z4 = 12 ∨ z4 = 13 ∨ z4 = 14 ∨ z4 = 15 ∨ z4 = 16 ∨ z4 = 17 ∨ z4 = 18 ∨ z4 = 19 ∨ z4 = 20 ∨ z4 = 21 ∨ z4 = 22 ∨ z4 = 23 ∨ z4 = 24 ∨ z4 = 25 ∨ z4 = 26 ∨ z4 = 27 ∨ z4 = 28 ∨ z4 = 29 ∨ ¬ (0 ≤ z4 ∧ z4 ≤ 29) := by omega
      rcases c5 with c5 | c5 | c5 | c5 | c5 | c5 | c5 | c5 | c5 | c5 | c5 | c5 | c5 | c5 | c5 | c5 | c5 | c5 | c5 | c5 | c5 | c5 | c5 | c5 | c5 | c5 | c5 | c5 | c5 | c5 | c5
      · rw [c5]
        refine x_B k231_33 rfl (fun _ => rfl) (fun _ => rfl) (fun _ _ => rfl) ?_
        show xe (some (N, xs)) 231 168 [(0, .ref 2000), (1, .ref 0), (2, .ref 256), (3, vi x3)] [] s 295 10442 _
        refine x_A k231_168 (fun _ => rfl) ?_
        refine x_callV k231_169 (y := 91) (n := 0) (w0 := 0) (w1 := 0) (as := []) (rest := []) (by decide +kernel) (q := 0) (nq := 12) (kq := 3) ⟨by decide, rfl⟩ rfl rfl rfl rfl (xe_mono (C_X10_edition_0 s hG) ?_)
        rintro s7 v ⟨hG_s7, t_s7, z6, rfl, g_z6, xp_z6⟩
        have J_s7 : J s7 := J.fl i_J t_s7 (by decide)
        have W1_s7 : W1 s7 := W1.fl i_W1 t_s7 (by decide)
        obtain ⟨z8, e_z8⟩ : ∃ z, z = s7 0 10 := ⟨_, rfl⟩
        have g_z8 : (0 : Int) ≤ s7 0 10 ∧ s7 0 10 ≤ 9 := hG_s7 0 10
        show xe (some (N, xs)) 231 172 [(0, .ref 2000), (1, .ref 0), (2, .ref 256), (3, vi x3)] [vi z6] s7 295 10442 _
        refine x_A k231_172 (fun _ => rfl) ?_
        refine x_A k231_173 (fun _ => rfl) ?_
        refine x_callV k231_174 (y := 145) (n := 0) (w0 := 0) (w1 := 0) (as := []) (rest := []) (by decide +kernel) (q := 256) (nq := 62) (kq := 15) ⟨by decide, rfl⟩ rfl rfl rfl rfl (xe_mono (D_X11_edition_256 s7 hG_s7 J_s7) ?_)
        rintro s10 v ⟨hG_s10, t_s10, z9, rfl, g_z9, xp_z9, J_s10⟩
        have q11 : s10 0 10 = z8 := (t_s10 0 10 (show 11 ∉ [4097] from by decide)).trans e_z8.symm
        have W1_s10 : W1 s10 := W1.fl W1_s7 t_s10 (by decide)
        obtain ⟨z12, e_z12⟩ : ∃ z, z = s10 256 0 := ⟨_, rfl⟩
        have g_z12 : (0 : Int) ≤ s10 256 0 ∧ s10 256 0 ≤ 9 := hG_s10 256 0
        show xe (some (N, xs)) 231 177 [(0, .ref 2000), (1, .ref 0), (2, .ref 256), (3, vi x3)] [vi z9] s10 295 10442 _
        obtain ⟨ez_s10, T0_s10⟩ := T0.ed i_T0 t_s7 t_s10 (by decide) (by decide) xp_z6 xp_z9
        refine x_A k231_177 (fun _ => rfl) ?_
        refine x_goto k231_178 (t := 1300) rfl ?_
        refine x_iinc k231_1300 (ls' := [(3, vi (x3 + 7)), (0, .ref 2000), (1, .ref 0), (2, .ref 256)]) rfl (by decide) rfl ?_
        refine x_goto k231_1303 (t := 18) rfl ?_
        refine x_ls (l := [(0, .ref 2000), (1, .ref 0), (2, .ref 256), (3, vi (x3 + 7))]) (show ([0, 1, 2, 3] : List Nat).Nodup from by decide) ⟨rfl, rfl, rfl, rfl, trivial⟩ ?_
        exact ih s10 (x3 + 7) hG_s10 trivial ⟨by omega, by omega⟩ J_s10 T0_s10 W1_s10  (by omega)
      · rw [c5]
        refine x_B k231_33 rfl (fun _ => rfl) (fun _ => rfl) (fun _ _ => rfl) ?_
        show xe (some (N, xs)) 231 181 [(0, .ref 2000), (1, .ref 0), (2, .ref 256), (3, vi x3)] [] s 295 10442 _
        refine x_A k231_181 (fun _ => rfl) ?_
        refine x_A k231_182 (fun _ => rfl) ?_
        refine x_A k231_183 (fun _ => rfl) ?_
        refine x_A k231_184 (fun _ => rfl) ?_
        refine x_iadd k231_185 ?_
        refine x_top (fun z13 e_z13 => ?_)
        refine x_scr k231_186 hN ⟨by omega, by omega⟩ (fun z14 g_z14 e_z14 => ?_)
        unfold in32 at g_z14
        obtain ⟨z15, e_z15⟩ : ∃ z, z = s 1 4 := ⟨_, rfl⟩
        have g_z15 : (1 : Int) ≤ s 1 4 ∧ s 1 4 ≤ 40 := hG 1 4
        obtain ⟨z16, e_z16⟩ : ∃ z, z = s 0 10 := ⟨_, rfl⟩
        have g_z16 : (0 : Int) ≤ s 0 10 ∧ s 0 10 ≤ 9 := hG 0 10
        refine x_callV k231_187 (y := 92) (n := 1) (w0 := 0) (w1 := 1) (as := [vi z14]) (rest := []) (by decide +kernel) (q := 0) (nq := 12) (kq := 3) ⟨by decide, rfl⟩ rfl rfl rfl rfl (xe_mono (E_X10_mark_0 s hG z14 ⟨by omega, by omega⟩ ⟨by omega, by omega⟩ ⟨by omega, by omega⟩) ?_)
        rintro s18 v ⟨hG_s18, t_s18, z17, rfl, g_z17, xp_z17⟩
        have q19 : s18 0 10 = z16 := (t_s18 0 10 (show 11 ∉ [69, 128, 384, 3276, 3277] from by decide)).trans e_z16.symm
        have J_s18 : J s18 := J.fl i_J t_s18 (by decide)
        have W1_s18 : W1 s18 := W1.fl i_W1 t_s18 (by decide)
        obtain ⟨z20, e_z20⟩ : ∃ z, z = s18 1 4 := ⟨_, rfl⟩
        have g_z20 : (1 : Int) ≤ s18 1 4 ∧ s18 1 4 ≤ 40 := hG_s18 1 4
        show xe (some (N, xs)) 231 190 [(0, .ref 2000), (1, .ref 0), (2, .ref 256), (3, vi x3)] [vi z17] s18 295 10442 _
        refine x_A k231_190 (fun _ => rfl) ?_
        refine x_A k231_191 (fun _ => rfl) ?_
        refine x_A k231_192 (fun _ => rfl) ?_
        refine x_A k231_193 (fun _ => rfl) ?_
        refine x_A k231_194 (fun _ => rfl) ?_
        refine x_iadd k231_195 ?_
        refine x_top (fun z21 e_z21 => ?_)
        refine x_scr k231_196 hN ⟨by omega, by omega⟩ (fun z22 g_z22 e_z22 => ?_)
        unfold in32 at g_z22
        have q_z22 : z22 = z14 := by rw [e_z22, e_z14, show z21 = z13 by omega]
        obtain ⟨z23, e_z23⟩ : ∃ z, z = s18 256 1 := ⟨_, rfl⟩
        have g_z23 : (1 : Int) ≤ s18 256 1 ∧ s18 256 1 ≤ 40 := hG_s18 256 1
        obtain ⟨z24, e_z24⟩ : ∃ z, z = s18 256 0 := ⟨_, rfl⟩
        have g_z24 : (0 : Int) ≤ s18 256 0 ∧ s18 256 0 ≤ 9 := hG_s18 256 0
        refine x_callV k231_197 (y := 146) (n := 1) (w0 := 0) (w1 := 1) (as := [vi z22]) (rest := []) (by decide +kernel) (q := 256) (nq := 62) (kq := 15) ⟨by decide, rfl⟩ rfl rfl rfl rfl (xe_mono (E_X11_mark_256 s18 hG_s18 z22 ⟨by omega, by omega⟩ ⟨by omega, by omega⟩ ⟨by omega, by omega⟩ J_s18) ?_)
        rintro s26 v ⟨hG_s26, t_s26, z25, rfl, g_z25, xp_z25, J_s26⟩
        have q27 : s26 0 10 = z16 := (t_s26 0 10 (show 11 ∉ [4098, 4160, 4224, 4288, 4352] from by decide)).trans q19
        have q28 : s26 1 4 = z20 := (t_s26 1 4 (show 69 ∉ [4098, 4160, 4224, 4288, 4352] from by decide)).trans e_z20.symm
        have q29 : s26 256 0 = z24 := (t_s26 256 0 (show 4097 ∉ [4098, 4160, 4224, 4288, 4352] from by decide)).trans e_z24.symm
        have W1_s26 : W1 s26 := W1.fl W1_s18 t_s26 (by decide)
        obtain ⟨z30, e_z30⟩ : ∃ z, z = s26 256 1 := ⟨_, rfl⟩
        have g_z30 : (1 : Int) ≤ s26 256 1 ∧ s26 256 1 ≤ 40 := hG_s26 256 1
        show xe (some (N, xs)) 231 200 [(0, .ref 2000), (1, .ref 0), (2, .ref 256), (3, vi x3)] [vi z25] s26 295 10442 _
        obtain ⟨ez_s26, T0_s26⟩ := T0.mark i_T0 hG t_s18 t_s26 (by decide) (by decide) xp_z17 (by rw [← q_z22]; exact xp_z25)
        refine x_A k231_200 (fun _ => rfl) ?_
        refine x_goto k231_201 (t := 1300) rfl ?_
        refine x_iinc k231_1300 (ls' := [(3, vi (x3 + 7)), (0, .ref 2000), (1, .ref 0), (2, .ref 256)]) rfl (by decide) rfl ?_
        refine x_goto k231_1303 (t := 18) rfl ?_
        refine x_ls (l := [(0, .ref 2000), (1, .ref 0), (2, .ref 256), (3, vi (x3 + 7))]) (show ([0, 1, 2, 3] : List Nat).Nodup from by decide) ⟨rfl, rfl, rfl, rfl, trivial⟩ ?_
        exact ih s26 (x3 + 7) hG_s26 trivial ⟨by omega, by omega⟩ J_s26 T0_s26 W1_s26  (by omega)
      · rw [c5]
        refine x_B k231_33 rfl (fun _ => rfl) (fun _ => rfl) (fun _ _ => rfl) ?_
        show xe (some (N, xs)) 231 204 [(0, .ref 2000), (1, .ref 0), (2, .ref 256), (3, vi x3)] [] s 295 10442 _
        refine x_A k231_204 (fun _ => rfl) ?_
        refine x_A k231_205 (fun _ => rfl) ?_
        refine x_A k231_206 (fun _ => rfl) ?_
        refine x_A k231_207 (fun _ => rfl) ?_
        refine x_iadd k231_208 ?_
        refine x_top (fun z31 e_z31 => ?_)
        refine x_scr k231_209 hN ⟨by omega, by omega⟩ (fun z32 g_z32 e_z32 => ?_)
        unfold in32 at g_z32
        refine x_A k231_210 (fun _ => rfl) ?_
        refine x_A k231_211 (fun _ => rfl) ?_
        refine x_A k231_212 (fun _ => rfl) ?_
        refine x_iadd k231_213 ?_
        refine x_top (fun z33 e_z33 => ?_)
        refine x_scr k231_214 hN ⟨by omega, by omega⟩ (fun z34 g_z34 e_z34 => ?_)
        unfold in32 at g_z34
        refine x_callV k231_215 (y := 93) (n := 2) (w0 := 0) (w1 := 2) (as := [vi z32, vi z34]) (rest := []) (by decide +kernel) (q := 0) (nq := 12) (kq := 3) ⟨by decide, rfl⟩ rfl rfl rfl rfl (xe_mono (C_X10_move_0 s hG z32 ⟨by omega, by omega⟩ z34 ⟨by omega, by omega⟩) ?_)
        rintro s36 v ⟨hG_s36, t_s36, z35, rfl, g_z35⟩
        have J_s36 : J s36 := J.fl i_J t_s36 (by decide)
        have T0_s36 : T0 s36 := T0.fl i_T0 t_s36 (by decide)
        have W1_s36 : W1 s36 := W1.fl i_W1 t_s36 (by decide)
        show xe (some (N, xs)) 231 218 [(0, .ref 2000), (1, .ref 0), (2, .ref 256), (3, vi x3)] [vi z35] s36 295 10442 _
        refine x_A k231_218 (fun _ => rfl) ?_
        refine x_A k231_219 (fun _ => rfl) ?_
        refine x_A k231_220 (fun _ => rfl) ?_
        refine x_A k231_221 (fun _ => rfl) ?_
        refine x_A k231_222 (fun _ => rfl) ?_
        refine x_iadd k231_223 ?_
        refine x_top (fun z37 e_z37 => ?_)
        refine x_scr k231_224 hN ⟨by omega, by omega⟩ (fun z38 g_z38 e_z38 => ?_)
        unfold in32 at g_z38
        have q_z38 : z38 = z32 := by rw [e_z38, e_z32, show z37 = z31 by omega]
        refine x_A k231_225 (fun _ => rfl) ?_
        refine x_A k231_226 (fun _ => rfl) ?_
        refine x_A k231_227 (fun _ => rfl) ?_
        refine x_iadd k231_228 ?_
        refine x_top (fun z39 e_z39 => ?_)
        refine x_scr k231_229 hN ⟨by omega, by omega⟩ (fun z40 g_z40 e_z40 => ?_)
        unfold in32 at g_z40
        have q_z40 : z40 = z34 := by rw [e_z40, e_z34, show z39 = z33 by omega]
        refine x_callV k231_230 (y := 147) (n := 2) (w0 := 0) (w1 := 2) (as := [vi z38, vi z40]) (rest := []) (by decide +kernel) (q := 256) (nq := 62) (kq := 15) ⟨by decide, rfl⟩ rfl rfl rfl rfl (xe_mono (D_X11_move_256 s36 hG_s36 z38 ⟨by omega, by omega⟩ z40 ⟨by omega, by omega⟩ J_s36) ?_)
        rintro s42 v ⟨hG_s42, t_s42, z41, rfl, g_z41, J_s42⟩
        have T0_s42 : T0 s42 := T0.fl T0_s36 t_s42 (by decide)
        have W1_s42 : W1 s42 := W1.fl W1_s36 t_s42 (by decide)
        show xe (some (N, xs)) 231 233 [(0, .ref 2000), (1, .ref 0), (2, .ref 256), (3, vi x3)] [vi z41] s42 295 10442 _
        refine x_A k231_233 (fun _ => rfl) ?_
        refine x_goto k231_234 (t := 1300) rfl ?_
        refine x_iinc k231_1300 (ls' := [(3, vi (x3 + 7)), (0, .ref 2000), (1, .ref 0), (2, .ref 256)]) rfl (by decide) rfl ?_
        refine x_goto k231_1303 (t := 18) rfl ?_
        refine x_ls (l := [(0, .ref 2000), (1, .ref 0), (2, .ref 256), (3, vi (x3 + 7))]) (show ([0, 1, 2, 3] : List Nat).Nodup from by decide) ⟨rfl, rfl, rfl, rfl, trivial⟩ ?_
        exact ih s42 (x3 + 7) hG_s42 trivial ⟨by omega, by omega⟩ J_s42 T0_s42 W1_s42  (by omega)
      · rw [c5]
        refine x_B k231_33 rfl (fun _ => rfl) (fun _ => rfl) (fun _ _ => rfl) ?_
        show xe (some (N, xs)) 231 237 [(0, .ref 2000), (1, .ref 0), (2, .ref 256), (3, vi x3)] [] s 295 10442 _
        refine x_A k231_237 (fun _ => rfl) ?_
        refine x_A k231_238 (fun _ => rfl) ?_
        refine x_A k231_239 (fun _ => rfl) ?_
        refine x_A k231_240 (fun _ => rfl) ?_
        refine x_iadd k231_241 ?_
        refine x_top (fun z43 e_z43 => ?_)
        refine x_scr k231_242 hN ⟨by omega, by omega⟩ (fun z44 g_z44 e_z44 => ?_)
        unfold in32 at g_z44
        refine x_A k231_243 (fun _ => rfl) ?_
        refine x_A k231_244 (fun _ => rfl) ?_
        refine x_A k231_245 (fun _ => rfl) ?_
        refine x_iadd k231_246 ?_
        refine x_top (fun z45 e_z45 => ?_)
        refine x_scr k231_247 hN ⟨by omega, by omega⟩ (fun z46 g_z46 e_z46 => ?_)
        unfold in32 at g_z46
        obtain ⟨z47, e_z47⟩ : ∃ z, z = s 1 4 := ⟨_, rfl⟩
        have g_z47 : (1 : Int) ≤ s 1 4 ∧ s 1 4 ≤ 40 := hG 1 4
        obtain ⟨z48, e_z48⟩ : ∃ z, z = s 0 10 := ⟨_, rfl⟩
        have g_z48 : (0 : Int) ≤ s 0 10 ∧ s 0 10 ≤ 9 := hG 0 10
        refine x_callV k231_248 (y := 94) (n := 2) (w0 := 0) (w1 := 2) (as := [vi z44, vi z46]) (rest := []) (by decide +kernel) (q := 0) (nq := 12) (kq := 3) ⟨by decide, rfl⟩ rfl rfl rfl rfl (xe_mono (E_X10_end_0 s hG z44 ⟨by omega, by omega⟩ z46 ⟨by omega, by omega⟩ ⟨by omega, by omega⟩ ⟨by omega, by omega⟩) ?_)
        rintro s50 v ⟨hG_s50, t_s50, z49, rfl, g_z49, xp_z49⟩
        have q51 : s50 1 4 = z47 := (t_s50 1 4 (show 69 ∉ [192, 256, 3276, 3277] from by decide)).trans e_z47.symm
        have q52 : s50 0 10 = z48 := (t_s50 0 10 (show 11 ∉ [192, 256, 3276, 3277] from by decide)).trans e_z48.symm
        have J_s50 : J s50 := J.fl i_J t_s50 (by decide)
        have W1_s50 : W1 s50 := W1.fl i_W1 t_s50 (by decide)
        show xe (some (N, xs)) 231 251 [(0, .ref 2000), (1, .ref 0), (2, .ref 256), (3, vi x3)] [vi z49] s50 295 10442 _
        refine x_A k231_251 (fun _ => rfl) ?_
        refine x_A k231_252 (fun _ => rfl) ?_
        refine x_A k231_253 (fun _ => rfl) ?_
        refine x_A k231_254 (fun _ => rfl) ?_
        refine x_A k231_255 (fun _ => rfl) ?_
        refine x_iadd k231_256 ?_
        refine x_top (fun z53 e_z53 => ?_)
        refine x_scr k231_257 hN ⟨by omega, by omega⟩ (fun z54 g_z54 e_z54 => ?_)
        unfold in32 at g_z54
        have q_z54 : z54 = z44 := by rw [e_z54, e_z44, show z53 = z43 by omega]
        refine x_A k231_258 (fun _ => rfl) ?_
        refine x_A k231_259 (fun _ => rfl) ?_
        refine x_A k231_260 (fun _ => rfl) ?_
        refine x_iadd k231_261 ?_
        refine x_top (fun z55 e_z55 => ?_)
        refine x_scr k231_262 hN ⟨by omega, by omega⟩ (fun z56 g_z56 e_z56 => ?_)
        unfold in32 at g_z56
        have q_z56 : z56 = z46 := by rw [e_z56, e_z46, show z55 = z45 by omega]
        obtain ⟨z57, e_z57⟩ : ∃ z, z = s50 256 1 := ⟨_, rfl⟩
        have g_z57 : (1 : Int) ≤ s50 256 1 ∧ s50 256 1 ≤ 40 := hG_s50 256 1
        obtain ⟨z58, e_z58⟩ : ∃ z, z = s50 256 0 := ⟨_, rfl⟩
        have g_z58 : (0 : Int) ≤ s50 256 0 ∧ s50 256 0 ≤ 9 := hG_s50 256 0
        refine x_callV k231_263 (y := 148) (n := 2) (w0 := 0) (w1 := 2) (as := [vi z54, vi z56]) (rest := []) (by decide +kernel) (q := 256) (nq := 62) (kq := 15) ⟨by decide, rfl⟩ rfl rfl rfl rfl (xe_mono (E_X11_end_256 s50 hG_s50 z54 ⟨by omega, by omega⟩ z56 ⟨by omega, by omega⟩ ⟨by omega, by omega⟩ ⟨by omega, by omega⟩ J_s50) ?_)
        rintro s60 v ⟨hG_s60, t_s60, z59, rfl, g_z59, xp_z59, J_s60⟩
        have q61 : s60 1 4 = z47 := (t_s60 1 4 (show 69 ∉ [4224, 4288] from by decide)).trans q51
        have q62 : s60 0 10 = z48 := (t_s60 0 10 (show 11 ∉ [4224, 4288] from by decide)).trans q52
        have q63 : s60 256 1 = z57 := (t_s60 256 1 (show 4098 ∉ [4224, 4288] from by decide)).trans e_z57.symm
        have q64 : s60 256 0 = z58 := (t_s60 256 0 (show 4097 ∉ [4224, 4288] from by decide)).trans e_z58.symm
        have W1_s60 : W1 s60 := W1.fl W1_s50 t_s60 (by decide)
        show xe (some (N, xs)) 231 266 [(0, .ref 2000), (1, .ref 0), (2, .ref 256), (3, vi x3)] [vi z59] s60 295 10442 _
        have T0_s60 := T0.end i_T0 hG t_s50 t_s60 (by decide) (by decide) xp_z49 (by rw [← q_z54, ← q_z56]; exact xp_z59)
        refine x_A k231_266 (fun _ => rfl) ?_
        refine x_goto k231_267 (t := 1300) rfl ?_
        refine x_iinc k231_1300 (ls' := [(3, vi (x3 + 7)), (0, .ref 2000), (1, .ref 0), (2, .ref 256)]) rfl (by decide) rfl ?_
        refine x_goto k231_1303 (t := 18) rfl ?_
        refine x_ls (l := [(0, .ref 2000), (1, .ref 0), (2, .ref 256), (3, vi (x3 + 7))]) (show ([0, 1, 2, 3] : List Nat).Nodup from by decide) ⟨rfl, rfl, rfl, rfl, trivial⟩ ?_
        exact ih s60 (x3 + 7) hG_s60 trivial ⟨by omega, by omega⟩ J_s60 T0_s60 W1_s60  (by omega)
      · rw [c5]
        refine x_B k231_33 rfl (fun _ => rfl) (fun _ => rfl) (fun _ _ => rfl) ?_
        show xe (some (N, xs)) 231 270 [(0, .ref 2000), (1, .ref 0), (2, .ref 256), (3, vi x3)] [] s 295 10442 _
        refine x_A k231_270 (fun _ => rfl) ?_
        refine x_A k231_271 (fun _ => rfl) ?_
        refine x_A k231_272 (fun _ => rfl) ?_
        refine x_A k231_273 (fun _ => rfl) ?_
        refine x_iadd k231_274 ?_
        refine x_top (fun z65 e_z65 => ?_)
        refine x_scr k231_275 hN ⟨by omega, by omega⟩ (fun z66 g_z66 e_z66 => ?_)
        unfold in32 at g_z66
        refine x_A k231_276 (fun _ => rfl) ?_
        refine x_A k231_277 (fun _ => rfl) ?_
        refine x_A k231_278 (fun _ => rfl) ?_
        refine x_iadd k231_279 ?_
        refine x_top (fun z67 e_z67 => ?_)
        refine x_scr k231_280 hN ⟨by omega, by omega⟩ (fun z68 g_z68 e_z68 => ?_)
        unfold in32 at g_z68
        refine x_A k231_281 (fun _ => rfl) ?_
        refine x_A k231_282 (fun _ => rfl) ?_
        refine x_A k231_283 (fun _ => rfl) ?_
        refine x_iadd k231_284 ?_
        refine x_top (fun z69 e_z69 => ?_)
        refine x_scr k231_285 hN ⟨by omega, by omega⟩ (fun z70 g_z70 e_z70 => ?_)
        unfold in32 at g_z70
        refine x_callV k231_286 (y := 95) (n := 3) (w0 := 0) (w1 := 3) (as := [vi z66, vi z68, vi z70]) (rest := []) (by decide +kernel) (q := 0) (nq := 12) (kq := 3) ⟨by decide, rfl⟩ rfl rfl rfl rfl (xe_mono (C_X10_tree_0 s hG i_J z66 ⟨by omega, by omega⟩ z68 ⟨by omega, by omega⟩ z70 ⟨by omega, by omega⟩) ?_)
        rintro s72 v ⟨hG_s72, t_s72, z71, rfl, g_z71⟩
        have J_s72 : J s72 := J.fl i_J t_s72 (by decide)
        have T0_s72 : T0 s72 := T0.fl i_T0 t_s72 (by decide)
        have W1_s72 : W1 s72 := W1.fl i_W1 t_s72 (by decide)
        show xe (some (N, xs)) 231 289 [(0, .ref 2000), (1, .ref 0), (2, .ref 256), (3, vi x3)] [vi z71] s72 295 10442 _
        refine x_A k231_289 (fun _ => rfl) ?_
        refine x_A k231_290 (fun _ => rfl) ?_
        refine x_A k231_291 (fun _ => rfl) ?_
        refine x_A k231_292 (fun _ => rfl) ?_
        refine x_A k231_293 (fun _ => rfl) ?_
        refine x_iadd k231_294 ?_
        refine x_top (fun z73 e_z73 => ?_)
        refine x_scr k231_295 hN ⟨by omega, by omega⟩ (fun z74 g_z74 e_z74 => ?_)
        unfold in32 at g_z74
        have q_z74 : z74 = z66 := by rw [e_z74, e_z66, show z73 = z65 by omega]
        refine x_A k231_296 (fun _ => rfl) ?_
        refine x_A k231_297 (fun _ => rfl) ?_
        refine x_A k231_298 (fun _ => rfl) ?_
        refine x_iadd k231_299 ?_
        refine x_top (fun z75 e_z75 => ?_)
        refine x_scr k231_300 hN ⟨by omega, by omega⟩ (fun z76 g_z76 e_z76 => ?_)
        unfold in32 at g_z76
        have q_z76 : z76 = z68 := by rw [e_z76, e_z68, show z75 = z67 by omega]
        refine x_A k231_301 (fun _ => rfl) ?_
        refine x_A k231_302 (fun _ => rfl) ?_
        refine x_A k231_303 (fun _ => rfl) ?_
        refine x_iadd k231_304 ?_
        refine x_top (fun z77 e_z77 => ?_)
        refine x_scr k231_305 hN ⟨by omega, by omega⟩ (fun z78 g_z78 e_z78 => ?_)
        unfold in32 at g_z78
        have q_z78 : z78 = z70 := by rw [e_z78, e_z70, show z77 = z69 by omega]
        refine x_callV k231_306 (y := 149) (n := 3) (w0 := 0) (w1 := 3) (as := [vi z74, vi z76, vi z78]) (rest := []) (by decide +kernel) (q := 256) (nq := 62) (kq := 15) ⟨by decide, rfl⟩ rfl rfl rfl rfl (xe_mono (C_X11_tree_256 s72 hG_s72 J_s72 z74 ⟨by omega, by omega⟩ z76 ⟨by omega, by omega⟩ z78 ⟨by omega, by omega⟩) ?_)
        rintro s80 v ⟨hG_s80, t_s80, z79, rfl, g_z79⟩
        have J_s80 : J s80 := J.fl J_s72 t_s80 (by decide)
        have T0_s80 : T0 s80 := T0.fl T0_s72 t_s80 (by decide)
        have W1_s80 : W1 s80 := W1.fl W1_s72 t_s80 (by decide)
        show xe (some (N, xs)) 231 309 [(0, .ref 2000), (1, .ref 0), (2, .ref 256), (3, vi x3)] [vi z79] s80 295 10442 _
        refine x_A k231_309 (fun _ => rfl) ?_
        refine x_goto k231_310 (t := 1300) rfl ?_
        refine x_iinc k231_1300 (ls' := [(3, vi (x3 + 7)), (0, .ref 2000), (1, .ref 0), (2, .ref 256)]) rfl (by decide) rfl ?_
        refine x_goto k231_1303 (t := 18) rfl ?_
        refine x_ls (l := [(0, .ref 2000), (1, .ref 0), (2, .ref 256), (3, vi (x3 + 7))]) (show ([0, 1, 2, 3] : List Nat).Nodup from by decide) ⟨rfl, rfl, rfl, rfl, trivial⟩ ?_
        exact ih s80 (x3 + 7) hG_s80 trivial ⟨by omega, by omega⟩ J_s80 T0_s80 W1_s80  (by omega)
      · rw [c5]
        refine x_B k231_33 rfl (fun _ => rfl) (fun _ => rfl) (fun _ _ => rfl) ?_
        show xe (some (N, xs)) 231 313 [(0, .ref 2000), (1, .ref 0), (2, .ref 256), (3, vi x3)] [] s 295 10442 _
        refine x_A k231_313 (fun _ => rfl) ?_
        refine x_A k231_314 (fun _ => rfl) ?_
        refine x_A k231_315 (fun _ => rfl) ?_
        refine x_A k231_316 (fun _ => rfl) ?_
        refine x_iadd k231_317 ?_
        refine x_top (fun z81 e_z81 => ?_)
        refine x_scr k231_318 hN ⟨by omega, by omega⟩ (fun z82 g_z82 e_z82 => ?_)
        unfold in32 at g_z82
        refine x_A k231_319 (fun _ => rfl) ?_
        refine x_A k231_320 (fun _ => rfl) ?_
        refine x_A k231_321 (fun _ => rfl) ?_
        refine x_iadd k231_322 ?_
        refine x_top (fun z83 e_z83 => ?_)
        refine x_scr k231_323 hN ⟨by omega, by omega⟩ (fun z84 g_z84 e_z84 => ?_)
        unfold in32 at g_z84
        refine x_A k231_324 (fun _ => rfl) ?_
        refine x_A k231_325 (fun _ => rfl) ?_
        refine x_A k231_326 (fun _ => rfl) ?_
        refine x_iadd k231_327 ?_
        refine x_top (fun z85 e_z85 => ?_)
        refine x_scr k231_328 hN ⟨by omega, by omega⟩ (fun z86 g_z86 e_z86 => ?_)
        unfold in32 at g_z86
        refine x_callV k231_329 (y := 96) (n := 3) (w0 := 0) (w1 := 3) (as := [vi z82, vi z84, vi z86]) (rest := []) (by decide +kernel) (q := 0) (nq := 12) (kq := 3) ⟨by decide, rfl⟩ rfl rfl rfl rfl (xe_mono (C_X10_below_0 s hG z82 ⟨by omega, by omega⟩ z84 ⟨by omega, by omega⟩ z86 ⟨by omega, by omega⟩) ?_)
        rintro s88 v ⟨-, t_s88, z87, rfl, g_z87⟩
        rw [t_s88.nil]
        show xe (some (N, xs)) 231 332 [(0, .ref 2000), (1, .ref 0), (2, .ref 256), (3, vi x3)] [vi z87] s 295 10442 _
        refine x_A k231_332 (fun _ => rfl) ?_
        refine x_A k231_333 (fun _ => rfl) ?_
        refine x_A k231_334 (fun _ => rfl) ?_
        refine x_A k231_335 (fun _ => rfl) ?_
        refine x_A k231_336 (fun _ => rfl) ?_
        refine x_iadd k231_337 ?_
        refine x_top (fun z89 e_z89 => ?_)
        refine x_scr k231_338 hN ⟨by omega, by omega⟩ (fun z90 g_z90 e_z90 => ?_)
        unfold in32 at g_z90
        have q_z90 : z90 = z82 := by rw [e_z90, e_z82, show z89 = z81 by omega]
        refine x_A k231_339 (fun _ => rfl) ?_
        refine x_A k231_340 (fun _ => rfl) ?_
        refine x_A k231_341 (fun _ => rfl) ?_
        refine x_iadd k231_342 ?_
        refine x_top (fun z91 e_z91 => ?_)
        refine x_scr k231_343 hN ⟨by omega, by omega⟩ (fun z92 g_z92 e_z92 => ?_)
        unfold in32 at g_z92
        have q_z92 : z92 = z84 := by rw [e_z92, e_z84, show z91 = z83 by omega]
        refine x_A k231_344 (fun _ => rfl) ?_
        refine x_A k231_345 (fun _ => rfl) ?_
        refine x_A k231_346 (fun _ => rfl) ?_
        refine x_iadd k231_347 ?_
        refine x_top (fun z93 e_z93 => ?_)
        refine x_scr k231_348 hN ⟨by omega, by omega⟩ (fun z94 g_z94 e_z94 => ?_)
        unfold in32 at g_z94
        have q_z94 : z94 = z86 := by rw [e_z94, e_z86, show z93 = z85 by omega]
        refine x_callV k231_349 (y := 150) (n := 3) (w0 := 0) (w1 := 3) (as := [vi z90, vi z92, vi z94]) (rest := []) (by decide +kernel) (q := 256) (nq := 62) (kq := 15) ⟨by decide, rfl⟩ rfl rfl rfl rfl (xe_mono (C_X11_below_256 s hG i_J z90 ⟨by omega, by omega⟩ z92 ⟨by omega, by omega⟩ z94 ⟨by omega, by omega⟩) ?_)
        rintro s96 v ⟨-, t_s96, z95, rfl, g_z95⟩
        rw [t_s96.nil]
        show xe (some (N, xs)) 231 352 [(0, .ref 2000), (1, .ref 0), (2, .ref 256), (3, vi x3)] [vi z95] s 295 10442 _
        refine x_A k231_352 (fun _ => rfl) ?_
        refine x_goto k231_353 (t := 1300) rfl ?_
        refine x_iinc k231_1300 (ls' := [(3, vi (x3 + 7)), (0, .ref 2000), (1, .ref 0), (2, .ref 256)]) rfl (by decide) rfl ?_
        refine x_goto k231_1303 (t := 18) rfl ?_
        refine x_ls (l := [(0, .ref 2000), (1, .ref 0), (2, .ref 256), (3, vi (x3 + 7))]) (show ([0, 1, 2, 3] : List Nat).Nodup from by decide) ⟨rfl, rfl, rfl, rfl, trivial⟩ ?_
        exact ih s (x3 + 7) hG f ⟨by omega, by omega⟩ i_J i_T0 i_W1  (by omega)
      · rw [c5]
        refine x_B k231_33 rfl (fun _ => rfl) (fun _ => rfl) (fun _ _ => rfl) ?_
        show xe (some (N, xs)) 231 356 [(0, .ref 2000), (1, .ref 0), (2, .ref 256), (3, vi x3)] [] s 295 10442 _
        refine x_A k231_356 (fun _ => rfl) ?_
        refine x_A k231_357 (fun _ => rfl) ?_
        refine x_A k231_358 (fun _ => rfl) ?_
        refine x_A k231_359 (fun _ => rfl) ?_
        refine x_iadd k231_360 ?_
        refine x_top (fun z97 e_z97 => ?_)
        refine x_scr k231_361 hN ⟨by omega, by omega⟩ (fun z98 g_z98 e_z98 => ?_)
        unfold in32 at g_z98
        refine x_A k231_362 (fun _ => rfl) ?_
        refine x_A k231_363 (fun _ => rfl) ?_
        refine x_A k231_364 (fun _ => rfl) ?_
        refine x_iadd k231_365 ?_
        refine x_top (fun z99 e_z99 => ?_)
        refine x_scr k231_366 hN ⟨by omega, by omega⟩ (fun z100 g_z100 e_z100 => ?_)
        unfold in32 at g_z100
        refine x_A k231_367 (fun _ => rfl) ?_
        refine x_A k231_368 (fun _ => rfl) ?_
        refine x_A k231_369 (fun _ => rfl) ?_
        refine x_iadd k231_370 ?_
        refine x_top (fun z101 e_z101 => ?_)
        refine x_scr k231_371 hN ⟨by omega, by omega⟩ (fun z102 g_z102 e_z102 => ?_)
        unfold in32 at g_z102
        refine x_callV k231_372 (y := 97) (n := 3) (w0 := 0) (w1 := 3) (as := [vi z98, vi z100, vi z102]) (rest := []) (by decide +kernel) (q := 0) (nq := 12) (kq := 3) ⟨by decide, rfl⟩ rfl rfl rfl rfl (xe_mono (C_X10_picture_0 s hG z98 ⟨by omega, by omega⟩ z100 ⟨by omega, by omega⟩ z102 ⟨by omega, by omega⟩) ?_)
        rintro s104 v ⟨hG_s104, t_s104, z103, rfl, g_z103⟩
        have J_s104 : J s104 := J.fl i_J t_s104 (by decide)
        have T0_s104 : T0 s104 := T0.fl i_T0 t_s104 (by decide)
        have W1_s104 : W1 s104 := W1.fl i_W1 t_s104 (by decide)
        show xe (some (N, xs)) 231 375 [(0, .ref 2000), (1, .ref 0), (2, .ref 256), (3, vi x3)] [vi z103] s104 295 10442 _
        refine x_A k231_375 (fun _ => rfl) ?_
        refine x_A k231_376 (fun _ => rfl) ?_
        refine x_A k231_377 (fun _ => rfl) ?_
        refine x_A k231_378 (fun _ => rfl) ?_
        refine x_A k231_379 (fun _ => rfl) ?_
        refine x_iadd k231_380 ?_
        refine x_top (fun z105 e_z105 => ?_)
        refine x_scr k231_381 hN ⟨by omega, by omega⟩ (fun z106 g_z106 e_z106 => ?_)
        unfold in32 at g_z106
        have q_z106 : z106 = z98 := by rw [e_z106, e_z98, show z105 = z97 by omega]
        refine x_A k231_382 (fun _ => rfl) ?_
        refine x_A k231_383 (fun _ => rfl) ?_
        refine x_A k231_384 (fun _ => rfl) ?_
        refine x_iadd k231_385 ?_
        refine x_top (fun z107 e_z107 => ?_)
        refine x_scr k231_386 hN ⟨by omega, by omega⟩ (fun z108 g_z108 e_z108 => ?_)
        unfold in32 at g_z108
        have q_z108 : z108 = z100 := by rw [e_z108, e_z100, show z107 = z99 by omega]
        refine x_A k231_387 (fun _ => rfl) ?_
        refine x_A k231_388 (fun _ => rfl) ?_
        refine x_A k231_389 (fun _ => rfl) ?_
        refine x_iadd k231_390 ?_
        refine x_top (fun z109 e_z109 => ?_)
        refine x_scr k231_391 hN ⟨by omega, by omega⟩ (fun z110 g_z110 e_z110 => ?_)
        unfold in32 at g_z110
        have q_z110 : z110 = z102 := by rw [e_z110, e_z102, show z109 = z101 by omega]
        refine x_callV k231_392 (y := 154) (n := 3) (w0 := 0) (w1 := 3) (as := [vi z106, vi z108, vi z110]) (rest := []) (by decide +kernel) (q := 256) (nq := 62) (kq := 15) ⟨by decide, rfl⟩ rfl rfl rfl rfl (xe_mono (D_X11_picture_256 s104 hG_s104 z106 ⟨by omega, by omega⟩ z108 ⟨by omega, by omega⟩ z110 ⟨by omega, by omega⟩ J_s104) ?_)
        rintro s112 v ⟨hG_s112, t_s112, z111, rfl, g_z111, J_s112⟩
        have T0_s112 : T0 s112 := T0.fl T0_s104 t_s112 (by decide)
        have W1_s112 : W1 s112 := W1.fl W1_s104 t_s112 (by decide)
        show xe (some (N, xs)) 231 395 [(0, .ref 2000), (1, .ref 0), (2, .ref 256), (3, vi x3)] [vi z111] s112 295 10442 _
        refine x_A k231_395 (fun _ => rfl) ?_
        refine x_goto k231_396 (t := 1300) rfl ?_
        refine x_iinc k231_1300 (ls' := [(3, vi (x3 + 7)), (0, .ref 2000), (1, .ref 0), (2, .ref 256)]) rfl (by decide) rfl ?_
        refine x_goto k231_1303 (t := 18) rfl ?_
        refine x_ls (l := [(0, .ref 2000), (1, .ref 0), (2, .ref 256), (3, vi (x3 + 7))]) (show ([0, 1, 2, 3] : List Nat).Nodup from by decide) ⟨rfl, rfl, rfl, rfl, trivial⟩ ?_
        exact ih s112 (x3 + 7) hG_s112 trivial ⟨by omega, by omega⟩ J_s112 T0_s112 W1_s112  (by omega)
      · rw [c5]
        refine x_B k231_33 rfl (fun _ => rfl) (fun _ => rfl) (fun _ _ => rfl) ?_
        show xe (some (N, xs)) 231 399 [(0, .ref 2000), (1, .ref 0), (2, .ref 256), (3, vi x3)] [] s 295 10442 _
        refine x_A k231_399 (fun _ => rfl) ?_
        refine x_A k231_400 (fun _ => rfl) ?_
        refine x_A k231_401 (fun _ => rfl) ?_
        refine x_A k231_402 (fun _ => rfl) ?_
        refine x_iadd k231_403 ?_
        refine x_top (fun z113 e_z113 => ?_)
        refine x_scr k231_404 hN ⟨by omega, by omega⟩ (fun z114 g_z114 e_z114 => ?_)
        unfold in32 at g_z114
        refine x_A k231_405 (fun _ => rfl) ?_
        refine x_A k231_406 (fun _ => rfl) ?_
        refine x_A k231_407 (fun _ => rfl) ?_
        refine x_iadd k231_408 ?_
        refine x_top (fun z115 e_z115 => ?_)
        refine x_scr k231_409 hN ⟨by omega, by omega⟩ (fun z116 g_z116 e_z116 => ?_)
        unfold in32 at g_z116
        refine x_A k231_410 (fun _ => rfl) ?_
        refine x_A k231_411 (fun _ => rfl) ?_
        refine x_A k231_412 (fun _ => rfl) ?_
        refine x_iadd k231_413 ?_
        refine x_top (fun z117 e_z117 => ?_)
        refine x_scr k231_414 hN ⟨by omega, by omega⟩ (fun z118 g_z118 e_z118 => ?_)
        unfold in32 at g_z118
        refine x_A k231_415 (fun _ => rfl) ?_
        refine x_A k231_416 (fun _ => rfl) ?_
        refine x_A k231_417 (fun _ => rfl) ?_
        refine x_iadd k231_418 ?_
        refine x_top (fun z119 e_z119 => ?_)
        refine x_scr k231_419 hN ⟨by omega, by omega⟩ (fun z120 g_z120 e_z120 => ?_)
        unfold in32 at g_z120
        refine x_callV k231_420 (y := 98) (n := 4) (w0 := 0) (w1 := 4) (as := [vi z114, vi z116, vi z118, vi z120]) (rest := []) (by decide +kernel) (q := 0) (nq := 12) (kq := 3) ⟨by decide, rfl⟩ rfl rfl rfl rfl (xe_mono (C_X10_give_0 s hG z114 ⟨by omega, by omega⟩ z116 ⟨by omega, by omega⟩ z118 ⟨by omega, by omega⟩ z120 ⟨by omega, by omega⟩) ?_)
        rintro s122 v ⟨hG_s122, t_s122, z121, rfl, g_z121⟩
        have J_s122 : J s122 := J.fl i_J t_s122 (by decide)
        have T0_s122 : T0 s122 := T0.fl i_T0 t_s122 (by decide)
        have W1_s122 : W1 s122 := W1.fl i_W1 t_s122 (by decide)
        show xe (some (N, xs)) 231 423 [(0, .ref 2000), (1, .ref 0), (2, .ref 256), (3, vi x3)] [vi z121] s122 295 10442 _
        refine x_A k231_423 (fun _ => rfl) ?_
        refine x_A k231_424 (fun _ => rfl) ?_
        refine x_A k231_425 (fun _ => rfl) ?_
        refine x_A k231_426 (fun _ => rfl) ?_
        refine x_A k231_427 (fun _ => rfl) ?_
        refine x_iadd k231_428 ?_
        refine x_top (fun z123 e_z123 => ?_)
        refine x_scr k231_429 hN ⟨by omega, by omega⟩ (fun z124 g_z124 e_z124 => ?_)
        unfold in32 at g_z124
        have q_z124 : z124 = z114 := by rw [e_z124, e_z114, show z123 = z113 by omega]
        refine x_A k231_430 (fun _ => rfl) ?_
        refine x_A k231_431 (fun _ => rfl) ?_
        refine x_A k231_432 (fun _ => rfl) ?_
        refine x_iadd k231_433 ?_
        refine x_top (fun z125 e_z125 => ?_)
        refine x_scr k231_434 hN ⟨by omega, by omega⟩ (fun z126 g_z126 e_z126 => ?_)
        unfold in32 at g_z126
        have q_z126 : z126 = z116 := by rw [e_z126, e_z116, show z125 = z115 by omega]
        refine x_A k231_435 (fun _ => rfl) ?_
        refine x_A k231_436 (fun _ => rfl) ?_
        refine x_A k231_437 (fun _ => rfl) ?_
        refine x_iadd k231_438 ?_
        refine x_top (fun z127 e_z127 => ?_)
        refine x_scr k231_439 hN ⟨by omega, by omega⟩ (fun z128 g_z128 e_z128 => ?_)
        unfold in32 at g_z128
        have q_z128 : z128 = z118 := by rw [e_z128, e_z118, show z127 = z117 by omega]
        refine x_A k231_440 (fun _ => rfl) ?_
        refine x_A k231_441 (fun _ => rfl) ?_
        refine x_A k231_442 (fun _ => rfl) ?_
        refine x_iadd k231_443 ?_
        refine x_top (fun z129 e_z129 => ?_)
        refine x_scr k231_444 hN ⟨by omega, by omega⟩ (fun z130 g_z130 e_z130 => ?_)
        unfold in32 at g_z130
        have q_z130 : z130 = z120 := by rw [e_z130, e_z120, show z129 = z119 by omega]
        refine x_callV k231_445 (y := 155) (n := 4) (w0 := 0) (w1 := 4) (as := [vi z124, vi z126, vi z128, vi z130]) (rest := []) (by decide +kernel) (q := 256) (nq := 62) (kq := 15) ⟨by decide, rfl⟩ rfl rfl rfl rfl (xe_mono (C_X11_give_256 s122 hG_s122 z124 ⟨by omega, by omega⟩ z126 ⟨by omega, by omega⟩ z128 ⟨by omega, by omega⟩ z130 ⟨by omega, by omega⟩) ?_)
        rintro s132 v ⟨hG_s132, t_s132, z131, rfl, g_z131⟩
        have J_s132 : J s132 := J.fl J_s122 t_s132 (by decide)
        have T0_s132 : T0 s132 := T0.fl T0_s122 t_s132 (by decide)
        have W1_s132 : W1 s132 := W1.fl W1_s122 t_s132 (by decide)
        show xe (some (N, xs)) 231 448 [(0, .ref 2000), (1, .ref 0), (2, .ref 256), (3, vi x3)] [vi z131] s132 295 10442 _
        refine x_A k231_448 (fun _ => rfl) ?_
        refine x_goto k231_449 (t := 1300) rfl ?_
        refine x_iinc k231_1300 (ls' := [(3, vi (x3 + 7)), (0, .ref 2000), (1, .ref 0), (2, .ref 256)]) rfl (by decide) rfl ?_
        refine x_goto k231_1303 (t := 18) rfl ?_
        refine x_ls (l := [(0, .ref 2000), (1, .ref 0), (2, .ref 256), (3, vi (x3 + 7))]) (show ([0, 1, 2, 3] : List Nat).Nodup from by decide) ⟨rfl, rfl, rfl, rfl, trivial⟩ ?_
        exact ih s132 (x3 + 7) hG_s132 trivial ⟨by omega, by omega⟩ J_s132 T0_s132 W1_s132  (by omega)
      · rw [c5]
        refine x_B k231_33 rfl (fun _ => rfl) (fun _ => rfl) (fun _ _ => rfl) ?_
        show xe (some (N, xs)) 231 452 [(0, .ref 2000), (1, .ref 0), (2, .ref 256), (3, vi x3)] [] s 295 10442 _
        refine x_A k231_452 (fun _ => rfl) ?_
        refine x_A k231_453 (fun _ => rfl) ?_
        refine x_A k231_454 (fun _ => rfl) ?_
        refine x_A k231_455 (fun _ => rfl) ?_
        refine x_iadd k231_456 ?_
        refine x_top (fun z133 e_z133 => ?_)
        refine x_scr k231_457 hN ⟨by omega, by omega⟩ (fun z134 g_z134 e_z134 => ?_)
        unfold in32 at g_z134
        refine x_A k231_458 (fun _ => rfl) ?_
        refine x_A k231_459 (fun _ => rfl) ?_
        refine x_A k231_460 (fun _ => rfl) ?_
        refine x_iadd k231_461 ?_
        refine x_top (fun z135 e_z135 => ?_)
        refine x_scr k231_462 hN ⟨by omega, by omega⟩ (fun z136 g_z136 e_z136 => ?_)
        unfold in32 at g_z136
        refine x_callV k231_463 (y := 99) (n := 2) (w0 := 0) (w1 := 2) (as := [vi z134, vi z136]) (rest := []) (by decide +kernel) (q := 0) (nq := 12) (kq := 3) ⟨by decide, rfl⟩ rfl rfl rfl rfl (xe_mono (C_X10_doubt_0 s hG z134 ⟨by omega, by omega⟩ z136 ⟨by omega, by omega⟩) ?_)
        rintro s138 v ⟨hG_s138, t_s138, z137, rfl, g_z137⟩
        have J_s138 : J s138 := J.fl i_J t_s138 (by decide)
        have T0_s138 : T0 s138 := T0.fl i_T0 t_s138 (by decide)
        have W1_s138 : W1 s138 := W1.fl i_W1 t_s138 (by decide)
        show xe (some (N, xs)) 231 466 [(0, .ref 2000), (1, .ref 0), (2, .ref 256), (3, vi x3)] [vi z137] s138 295 10442 _
        refine x_A k231_466 (fun _ => rfl) ?_
        refine x_A k231_467 (fun _ => rfl) ?_
        refine x_A k231_468 (fun _ => rfl) ?_
        refine x_A k231_469 (fun _ => rfl) ?_
        refine x_A k231_470 (fun _ => rfl) ?_
        refine x_iadd k231_471 ?_
        refine x_top (fun z139 e_z139 => ?_)
        refine x_scr k231_472 hN ⟨by omega, by omega⟩ (fun z140 g_z140 e_z140 => ?_)
        unfold in32 at g_z140
        have q_z140 : z140 = z134 := by rw [e_z140, e_z134, show z139 = z133 by omega]
        refine x_A k231_473 (fun _ => rfl) ?_
        refine x_A k231_474 (fun _ => rfl) ?_
        refine x_A k231_475 (fun _ => rfl) ?_
        refine x_iadd k231_476 ?_
        refine x_top (fun z141 e_z141 => ?_)
        refine x_scr k231_477 hN ⟨by omega, by omega⟩ (fun z142 g_z142 e_z142 => ?_)
        unfold in32 at g_z142
        have q_z142 : z142 = z136 := by rw [e_z142, e_z136, show z141 = z135 by omega]
        refine x_callV k231_478 (y := 157) (n := 2) (w0 := 0) (w1 := 2) (as := [vi z140, vi z142]) (rest := []) (by decide +kernel) (q := 256) (nq := 62) (kq := 15) ⟨by decide, rfl⟩ rfl rfl rfl rfl (xe_mono (C_X11_doubt_256 s138 hG_s138 z140 ⟨by omega, by omega⟩ z142 ⟨by omega, by omega⟩) ?_)
        rintro s144 v ⟨hG_s144, t_s144, z143, rfl, g_z143⟩
        have J_s144 : J s144 := J.fl J_s138 t_s144 (by decide)
        have T0_s144 : T0 s144 := T0.fl T0_s138 t_s144 (by decide)
        have W1_s144 : W1 s144 := W1.fl W1_s138 t_s144 (by decide)
        show xe (some (N, xs)) 231 481 [(0, .ref 2000), (1, .ref 0), (2, .ref 256), (3, vi x3)] [vi z143] s144 295 10442 _
        refine x_A k231_481 (fun _ => rfl) ?_
        refine x_goto k231_482 (t := 1300) rfl ?_
        refine x_iinc k231_1300 (ls' := [(3, vi (x3 + 7)), (0, .ref 2000), (1, .ref 0), (2, .ref 256)]) rfl (by decide) rfl ?_
        refine x_goto k231_1303 (t := 18) rfl ?_
        refine x_ls (l := [(0, .ref 2000), (1, .ref 0), (2, .ref 256), (3, vi (x3 + 7))]) (show ([0, 1, 2, 3] : List Nat).Nodup from by decide) ⟨rfl, rfl, rfl, rfl, trivial⟩ ?_
        exact ih s144 (x3 + 7) hG_s144 trivial ⟨by omega, by omega⟩ J_s144 T0_s144 W1_s144  (by omega)
      · rw [c5]
        refine x_B k231_33 rfl (fun _ => rfl) (fun _ => rfl) (fun _ _ => rfl) ?_
        show xe (some (N, xs)) 231 485 [(0, .ref 2000), (1, .ref 0), (2, .ref 256), (3, vi x3)] [] s 295 10442 _
        refine x_A k231_485 (fun _ => rfl) ?_
        refine x_A k231_486 (fun _ => rfl) ?_
        refine x_A k231_487 (fun _ => rfl) ?_
        refine x_A k231_488 (fun _ => rfl) ?_
        refine x_iadd k231_489 ?_
        refine x_top (fun z145 e_z145 => ?_)
        refine x_scr k231_490 hN ⟨by omega, by omega⟩ (fun z146 g_z146 e_z146 => ?_)
        unfold in32 at g_z146
        refine x_A k231_491 (fun _ => rfl) ?_
        refine x_A k231_492 (fun _ => rfl) ?_
        refine x_A k231_493 (fun _ => rfl) ?_
        refine x_iadd k231_494 ?_
        refine x_top (fun z147 e_z147 => ?_)
        refine x_scr k231_495 hN ⟨by omega, by omega⟩ (fun z148 g_z148 e_z148 => ?_)
        unfold in32 at g_z148
        refine x_callV k231_496 (y := 100) (n := 2) (w0 := 0) (w1 := 2) (as := [vi z146, vi z148]) (rest := []) (by decide +kernel) (q := 0) (nq := 12) (kq := 3) ⟨by decide, rfl⟩ rfl rfl rfl rfl (xe_mono (C_X10_told_0 s hG i_J z146 ⟨by omega, by omega⟩ z148 ⟨by omega, by omega⟩) ?_)
        rintro s150 v ⟨hG_s150, t_s150, z149, rfl, g_z149⟩
        have J_s150 : J s150 := J.fl i_J t_s150 (by decide)
        have T0_s150 : T0 s150 := T0.fl i_T0 t_s150 (by decide)
        have W1_s150 : W1 s150 := W1.fl i_W1 t_s150 (by decide)
        show xe (some (N, xs)) 231 499 [(0, .ref 2000), (1, .ref 0), (2, .ref 256), (3, vi x3)] [vi z149] s150 295 10442 _
        refine x_A k231_499 (fun _ => rfl) ?_
        refine x_A k231_500 (fun _ => rfl) ?_
        refine x_A k231_501 (fun _ => rfl) ?_
        refine x_A k231_502 (fun _ => rfl) ?_
        refine x_A k231_503 (fun _ => rfl) ?_
        refine x_iadd k231_504 ?_
        refine x_top (fun z151 e_z151 => ?_)
        refine x_scr k231_505 hN ⟨by omega, by omega⟩ (fun z152 g_z152 e_z152 => ?_)
        unfold in32 at g_z152
        have q_z152 : z152 = z146 := by rw [e_z152, e_z146, show z151 = z145 by omega]
        refine x_A k231_506 (fun _ => rfl) ?_
        refine x_A k231_507 (fun _ => rfl) ?_
        refine x_A k231_508 (fun _ => rfl) ?_
        refine x_iadd k231_509 ?_
        refine x_top (fun z153 e_z153 => ?_)
        refine x_scr k231_510 hN ⟨by omega, by omega⟩ (fun z154 g_z154 e_z154 => ?_)
        unfold in32 at g_z154
        have q_z154 : z154 = z148 := by rw [e_z154, e_z148, show z153 = z147 by omega]
        refine x_callV k231_511 (y := 158) (n := 2) (w0 := 0) (w1 := 2) (as := [vi z152, vi z154]) (rest := []) (by decide +kernel) (q := 256) (nq := 62) (kq := 15) ⟨by decide, rfl⟩ rfl rfl rfl rfl (xe_mono (C_X11_told_256 s150 hG_s150 J_s150 z152 ⟨by omega, by omega⟩ z154 ⟨by omega, by omega⟩) ?_)
        rintro s156 v ⟨hG_s156, t_s156, z155, rfl, g_z155⟩
        have J_s156 : J s156 := J.fl J_s150 t_s156 (by decide)
        have T0_s156 : T0 s156 := T0.fl T0_s150 t_s156 (by decide)
        have W1_s156 : W1 s156 := W1.fl W1_s150 t_s156 (by decide)
        show xe (some (N, xs)) 231 514 [(0, .ref 2000), (1, .ref 0), (2, .ref 256), (3, vi x3)] [vi z155] s156 295 10442 _
        refine x_A k231_514 (fun _ => rfl) ?_
        refine x_goto k231_515 (t := 1300) rfl ?_
        refine x_iinc k231_1300 (ls' := [(3, vi (x3 + 7)), (0, .ref 2000), (1, .ref 0), (2, .ref 256)]) rfl (by decide) rfl ?_
        refine x_goto k231_1303 (t := 18) rfl ?_
        refine x_ls (l := [(0, .ref 2000), (1, .ref 0), (2, .ref 256), (3, vi (x3 + 7))]) (show ([0, 1, 2, 3] : List Nat).Nodup from by decide) ⟨rfl, rfl, rfl, rfl, trivial⟩ ?_
        exact ih s156 (x3 + 7) hG_s156 trivial ⟨by omega, by omega⟩ J_s156 T0_s156 W1_s156  (by omega)
      · rw [c5]
        refine x_B k231_33 rfl (fun _ => rfl) (fun _ => rfl) (fun _ _ => rfl) ?_
        show xe (some (N, xs)) 231 518 [(0, .ref 2000), (1, .ref 0), (2, .ref 256), (3, vi x3)] [] s 295 10442 _
        refine x_A k231_518 (fun _ => rfl) ?_
        refine x_A k231_519 (fun _ => rfl) ?_
        refine x_A k231_520 (fun _ => rfl) ?_
        refine x_A k231_521 (fun _ => rfl) ?_
        refine x_iadd k231_522 ?_
        refine x_top (fun z157 e_z157 => ?_)
        refine x_scr k231_523 hN ⟨by omega, by omega⟩ (fun z158 g_z158 e_z158 => ?_)
        unfold in32 at g_z158
        refine x_A k231_524 (fun _ => rfl) ?_
        refine x_A k231_525 (fun _ => rfl) ?_
        refine x_A k231_526 (fun _ => rfl) ?_
        refine x_iadd k231_527 ?_
        refine x_top (fun z159 e_z159 => ?_)
        refine x_scr k231_528 hN ⟨by omega, by omega⟩ (fun z160 g_z160 e_z160 => ?_)
        unfold in32 at g_z160
        refine x_A k231_529 (fun _ => rfl) ?_
        refine x_A k231_530 (fun _ => rfl) ?_
        refine x_A k231_531 (fun _ => rfl) ?_
        refine x_iadd k231_532 ?_
        refine x_top (fun z161 e_z161 => ?_)
        refine x_scr k231_533 hN ⟨by omega, by omega⟩ (fun z162 g_z162 e_z162 => ?_)
        unfold in32 at g_z162
        refine x_callV k231_534 (y := 101) (n := 3) (w0 := 0) (w1 := 3) (as := [vi z158, vi z160, vi z162]) (rest := []) (by decide +kernel) (q := 0) (nq := 12) (kq := 3) ⟨by decide, rfl⟩ rfl rfl rfl rfl (xe_mono (C_X10_means_0 s hG i_J z158 ⟨by omega, by omega⟩ z160 ⟨by omega, by omega⟩ z162 ⟨by omega, by omega⟩) ?_)
        rintro s164 v ⟨hG_s164, t_s164, z163, rfl, g_z163⟩
        have J_s164 : J s164 := J.fl i_J t_s164 (by decide)
        have T0_s164 : T0 s164 := T0.fl i_T0 t_s164 (by decide)
        have W1_s164 : W1 s164 := W1.fl i_W1 t_s164 (by decide)
        show xe (some (N, xs)) 231 537 [(0, .ref 2000), (1, .ref 0), (2, .ref 256), (3, vi x3)] [vi z163] s164 295 10442 _
        refine x_A k231_537 (fun _ => rfl) ?_
        refine x_A k231_538 (fun _ => rfl) ?_
        refine x_A k231_539 (fun _ => rfl) ?_
        refine x_A k231_540 (fun _ => rfl) ?_
        refine x_A k231_541 (fun _ => rfl) ?_
        refine x_iadd k231_542 ?_
        refine x_top (fun z165 e_z165 => ?_)
        refine x_scr k231_543 hN ⟨by omega, by omega⟩ (fun z166 g_z166 e_z166 => ?_)
        unfold in32 at g_z166
        have q_z166 : z166 = z158 := by rw [e_z166, e_z158, show z165 = z157 by omega]
        refine x_A k231_544 (fun _ => rfl) ?_
        refine x_A k231_545 (fun _ => rfl) ?_
        refine x_A k231_546 (fun _ => rfl) ?_
        refine x_iadd k231_547 ?_
        refine x_top (fun z167 e_z167 => ?_)
        refine x_scr k231_548 hN ⟨by omega, by omega⟩ (fun z168 g_z168 e_z168 => ?_)
        unfold in32 at g_z168
        have q_z168 : z168 = z160 := by rw [e_z168, e_z160, show z167 = z159 by omega]
        refine x_A k231_549 (fun _ => rfl) ?_
        refine x_A k231_550 (fun _ => rfl) ?_
        refine x_A k231_551 (fun _ => rfl) ?_
        refine x_iadd k231_552 ?_
        refine x_top (fun z169 e_z169 => ?_)
        refine x_scr k231_553 hN ⟨by omega, by omega⟩ (fun z170 g_z170 e_z170 => ?_)
        unfold in32 at g_z170
        have q_z170 : z170 = z162 := by rw [e_z170, e_z162, show z169 = z161 by omega]
        refine x_callV k231_554 (y := 172) (n := 3) (w0 := 0) (w1 := 3) (as := [vi z166, vi z168, vi z170]) (rest := []) (by decide +kernel) (q := 256) (nq := 62) (kq := 15) ⟨by decide, rfl⟩ rfl rfl rfl rfl (xe_mono (C_X11_means_256 s164 hG_s164 J_s164 z166 ⟨by omega, by omega⟩ z168 ⟨by omega, by omega⟩ z170 ⟨by omega, by omega⟩) ?_)
        rintro s172 v ⟨hG_s172, t_s172, z171, rfl, g_z171⟩
        have J_s172 : J s172 := J.fl J_s164 t_s172 (by decide)
        have T0_s172 : T0 s172 := T0.fl T0_s164 t_s172 (by decide)
        have W1_s172 : W1 s172 := W1.fl W1_s164 t_s172 (by decide)
        show xe (some (N, xs)) 231 557 [(0, .ref 2000), (1, .ref 0), (2, .ref 256), (3, vi x3)] [vi z171] s172 295 10442 _
        refine x_A k231_557 (fun _ => rfl) ?_
        refine x_goto k231_558 (t := 1300) rfl ?_
        refine x_iinc k231_1300 (ls' := [(3, vi (x3 + 7)), (0, .ref 2000), (1, .ref 0), (2, .ref 256)]) rfl (by decide) rfl ?_
        refine x_goto k231_1303 (t := 18) rfl ?_
        refine x_ls (l := [(0, .ref 2000), (1, .ref 0), (2, .ref 256), (3, vi (x3 + 7))]) (show ([0, 1, 2, 3] : List Nat).Nodup from by decide) ⟨rfl, rfl, rfl, rfl, trivial⟩ ?_
        exact ih s172 (x3 + 7) hG_s172 trivial ⟨by omega, by omega⟩ J_s172 T0_s172 W1_s172  (by omega)
      · rw [c5]
        refine x_B k231_33 rfl (fun _ => rfl) (fun _ => rfl) (fun _ _ => rfl) ?_
        show xe (some (N, xs)) 231 561 [(0, .ref 2000), (1, .ref 0), (2, .ref 256), (3, vi x3)] [] s 295 10442 _
        refine x_A k231_561 (fun _ => rfl) ?_
        refine x_A k231_562 (fun _ => rfl) ?_
        refine x_A k231_563 (fun _ => rfl) ?_
        refine x_A k231_564 (fun _ => rfl) ?_
        refine x_iadd k231_565 ?_
        refine x_top (fun z173 e_z173 => ?_)
        refine x_scr k231_566 hN ⟨by omega, by omega⟩ (fun z174 g_z174 e_z174 => ?_)
        unfold in32 at g_z174
        refine x_A k231_567 (fun _ => rfl) ?_
        refine x_A k231_568 (fun _ => rfl) ?_
        refine x_A k231_569 (fun _ => rfl) ?_
        refine x_iadd k231_570 ?_
        refine x_top (fun z175 e_z175 => ?_)
        refine x_scr k231_571 hN ⟨by omega, by omega⟩ (fun z176 g_z176 e_z176 => ?_)
        unfold in32 at g_z176
        refine x_A k231_572 (fun _ => rfl) ?_
        refine x_A k231_573 (fun _ => rfl) ?_
        refine x_A k231_574 (fun _ => rfl) ?_
        refine x_iadd k231_575 ?_
        refine x_top (fun z177 e_z177 => ?_)
        refine x_scr k231_576 hN ⟨by omega, by omega⟩ (fun z178 g_z178 e_z178 => ?_)
        unfold in32 at g_z178
        refine x_callV k231_577 (y := 102) (n := 3) (w0 := 0) (w1 := 3) (as := [vi z174, vi z176, vi z178]) (rest := []) (by decide +kernel) (q := 0) (nq := 12) (kq := 3) ⟨by decide, rfl⟩ rfl rfl rfl rfl (xe_mono (C_X10_led_0 s hG i_J z174 ⟨by omega, by omega⟩ z176 ⟨by omega, by omega⟩ z178 ⟨by omega, by omega⟩) ?_)
        rintro s180 v ⟨hG_s180, t_s180, z179, rfl, g_z179⟩
        have J_s180 : J s180 := J.fl i_J t_s180 (by decide)
        have T0_s180 : T0 s180 := T0.fl i_T0 t_s180 (by decide)
        have W1_s180 : W1 s180 := W1.fl i_W1 t_s180 (by decide)
        show xe (some (N, xs)) 231 580 [(0, .ref 2000), (1, .ref 0), (2, .ref 256), (3, vi x3)] [vi z179] s180 295 10442 _
        refine x_A k231_580 (fun _ => rfl) ?_
        refine x_A k231_581 (fun _ => rfl) ?_
        refine x_A k231_582 (fun _ => rfl) ?_
        refine x_A k231_583 (fun _ => rfl) ?_
        refine x_A k231_584 (fun _ => rfl) ?_
        refine x_iadd k231_585 ?_
        refine x_top (fun z181 e_z181 => ?_)
        refine x_scr k231_586 hN ⟨by omega, by omega⟩ (fun z182 g_z182 e_z182 => ?_)
        unfold in32 at g_z182
        have q_z182 : z182 = z174 := by rw [e_z182, e_z174, show z181 = z173 by omega]
        refine x_A k231_587 (fun _ => rfl) ?_
        refine x_A k231_588 (fun _ => rfl) ?_
        refine x_A k231_589 (fun _ => rfl) ?_
        refine x_iadd k231_590 ?_
        refine x_top (fun z183 e_z183 => ?_)
        refine x_scr k231_591 hN ⟨by omega, by omega⟩ (fun z184 g_z184 e_z184 => ?_)
        unfold in32 at g_z184
        have q_z184 : z184 = z176 := by rw [e_z184, e_z176, show z183 = z175 by omega]
        refine x_A k231_592 (fun _ => rfl) ?_
        refine x_A k231_593 (fun _ => rfl) ?_
        refine x_A k231_594 (fun _ => rfl) ?_
        refine x_iadd k231_595 ?_
        refine x_top (fun z185 e_z185 => ?_)
        refine x_scr k231_596 hN ⟨by omega, by omega⟩ (fun z186 g_z186 e_z186 => ?_)
        unfold in32 at g_z186
        have q_z186 : z186 = z178 := by rw [e_z186, e_z178, show z185 = z177 by omega]
        refine x_callV k231_597 (y := 173) (n := 3) (w0 := 0) (w1 := 3) (as := [vi z182, vi z184, vi z186]) (rest := []) (by decide +kernel) (q := 256) (nq := 62) (kq := 15) ⟨by decide, rfl⟩ rfl rfl rfl rfl (xe_mono (C_X11_led_256 s180 hG_s180 J_s180 z182 ⟨by omega, by omega⟩ z184 ⟨by omega, by omega⟩ z186 ⟨by omega, by omega⟩) ?_)
        rintro s188 v ⟨hG_s188, t_s188, z187, rfl, g_z187⟩
        have J_s188 : J s188 := J.fl J_s180 t_s188 (by decide)
        have T0_s188 : T0 s188 := T0.fl T0_s180 t_s188 (by decide)
        have W1_s188 : W1 s188 := W1.fl W1_s180 t_s188 (by decide)
        show xe (some (N, xs)) 231 600 [(0, .ref 2000), (1, .ref 0), (2, .ref 256), (3, vi x3)] [vi z187] s188 295 10442 _
        refine x_A k231_600 (fun _ => rfl) ?_
        refine x_goto k231_601 (t := 1300) rfl ?_
        refine x_iinc k231_1300 (ls' := [(3, vi (x3 + 7)), (0, .ref 2000), (1, .ref 0), (2, .ref 256)]) rfl (by decide) rfl ?_
        refine x_goto k231_1303 (t := 18) rfl ?_
        refine x_ls (l := [(0, .ref 2000), (1, .ref 0), (2, .ref 256), (3, vi (x3 + 7))]) (show ([0, 1, 2, 3] : List Nat).Nodup from by decide) ⟨rfl, rfl, rfl, rfl, trivial⟩ ?_
        exact ih s188 (x3 + 7) hG_s188 trivial ⟨by omega, by omega⟩ J_s188 T0_s188 W1_s188  (by omega)
      · rw [c5]
        refine x_B k231_33 rfl (fun _ => rfl) (fun _ => rfl) (fun _ _ => rfl) ?_
        show xe (some (N, xs)) 231 604 [(0, .ref 2000), (1, .ref 0), (2, .ref 256), (3, vi x3)] [] s 295 10442 _
        refine x_A k231_604 (fun _ => rfl) ?_
        refine x_A k231_605 (fun _ => rfl) ?_
        refine x_A k231_606 (fun _ => rfl) ?_
        refine x_A k231_607 (fun _ => rfl) ?_
        refine x_iadd k231_608 ?_
        refine x_top (fun z189 e_z189 => ?_)
        refine x_scr k231_609 hN ⟨by omega, by omega⟩ (fun z190 g_z190 e_z190 => ?_)
        unfold in32 at g_z190
        refine x_callV k231_610 (y := 103) (n := 1) (w0 := 0) (w1 := 1) (as := [vi z190]) (rest := []) (by decide +kernel) (q := 0) (nq := 12) (kq := 3) ⟨by decide, rfl⟩ rfl rfl rfl rfl (xe_mono (C_X10_count_0 s hG i_J z190 ⟨by omega, by omega⟩) ?_)
        rintro s192 v ⟨hG_s192, t_s192, z191, rfl, g_z191⟩
        have J_s192 : J s192 := J.fl i_J t_s192 (by decide)
        have T0_s192 : T0 s192 := T0.fl i_T0 t_s192 (by decide)
        have W1_s192 : W1 s192 := W1.fl i_W1 t_s192 (by decide)
        show xe (some (N, xs)) 231 613 [(0, .ref 2000), (1, .ref 0), (2, .ref 256), (3, vi x3)] [vi z191] s192 295 10442 _
        refine x_A k231_613 (fun _ => rfl) ?_
        refine x_A k231_614 (fun _ => rfl) ?_
        refine x_A k231_615 (fun _ => rfl) ?_
        refine x_A k231_616 (fun _ => rfl) ?_
        refine x_A k231_617 (fun _ => rfl) ?_
        refine x_iadd k231_618 ?_
        refine x_top (fun z193 e_z193 => ?_)
        refine x_scr k231_619 hN ⟨by omega, by omega⟩ (fun z194 g_z194 e_z194 => ?_)
        unfold in32 at g_z194
        have q_z194 : z194 = z190 := by rw [e_z194, e_z190, show z193 = z189 by omega]
        refine x_callV k231_620 (y := 174) (n := 1) (w0 := 0) (w1 := 1) (as := [vi z194]) (rest := []) (by decide +kernel) (q := 256) (nq := 62) (kq := 15) ⟨by decide, rfl⟩ rfl rfl rfl rfl (xe_mono (C_X11_count_256 s192 hG_s192 J_s192 z194 ⟨by omega, by omega⟩) ?_)
        rintro s196 v ⟨hG_s196, t_s196, z195, rfl, g_z195⟩
        have J_s196 : J s196 := J.fl J_s192 t_s196 (by decide)
        have T0_s196 : T0 s196 := T0.fl T0_s192 t_s196 (by decide)
        have W1_s196 : W1 s196 := W1.fl W1_s192 t_s196 (by decide)
        show xe (some (N, xs)) 231 623 [(0, .ref 2000), (1, .ref 0), (2, .ref 256), (3, vi x3)] [vi z195] s196 295 10442 _
        refine x_A k231_623 (fun _ => rfl) ?_
        refine x_goto k231_624 (t := 1300) rfl ?_
        refine x_iinc k231_1300 (ls' := [(3, vi (x3 + 7)), (0, .ref 2000), (1, .ref 0), (2, .ref 256)]) rfl (by decide) rfl ?_
        refine x_goto k231_1303 (t := 18) rfl ?_
        refine x_ls (l := [(0, .ref 2000), (1, .ref 0), (2, .ref 256), (3, vi (x3 + 7))]) (show ([0, 1, 2, 3] : List Nat).Nodup from by decide) ⟨rfl, rfl, rfl, rfl, trivial⟩ ?_
        exact ih s196 (x3 + 7) hG_s196 trivial ⟨by omega, by omega⟩ J_s196 T0_s196 W1_s196  (by omega)
      · rw [c5]
        refine x_B k231_33 rfl (fun _ => rfl) (fun _ => rfl) (fun _ _ => rfl) ?_
        show xe (some (N, xs)) 231 627 [(0, .ref 2000), (1, .ref 0), (2, .ref 256), (3, vi x3)] [] s 295 10442 _
        refine x_A k231_627 (fun _ => rfl) ?_
        refine x_A k231_628 (fun _ => rfl) ?_
        refine x_A k231_629 (fun _ => rfl) ?_
        refine x_A k231_630 (fun _ => rfl) ?_
        refine x_iadd k231_631 ?_
        refine x_top (fun z197 e_z197 => ?_)
        refine x_scr k231_632 hN ⟨by omega, by omega⟩ (fun z198 g_z198 e_z198 => ?_)
        unfold in32 at g_z198
        refine x_A k231_633 (fun _ => rfl) ?_
        refine x_A k231_634 (fun _ => rfl) ?_
        refine x_A k231_635 (fun _ => rfl) ?_
        refine x_iadd k231_636 ?_
        refine x_top (fun z199 e_z199 => ?_)
        refine x_scr k231_637 hN ⟨by omega, by omega⟩ (fun z200 g_z200 e_z200 => ?_)
        unfold in32 at g_z200
        refine x_i2l k231_638 ⟨by omega, by omega⟩ ?_
        refine x_bipush k231_639 (by decide +kernel) ?_
        refine x_lshl_any k231_641 (fun z201 b_z201 => ?_)
        refine x_A k231_642 (fun _ => rfl) ?_
        refine x_A k231_643 (fun _ => rfl) ?_
        refine x_A k231_644 (fun _ => rfl) ?_
        refine x_iadd k231_645 ?_
        refine x_top (fun z202 e_z202 => ?_)
        refine x_scr k231_646 hN ⟨by omega, by omega⟩ (fun z203 g_z203 e_z203 => ?_)
        unfold in32 at g_z203
        refine x_i2l k231_647 ⟨by omega, by omega⟩ ?_
        refine x_ldc2 k231_648 (z := 4294967295) rfl (by decide +kernel) ?_
        refine x_land_mask k231_651 ⟨by omega, by omega⟩ (fun z204 g_z204 => ?_)
        refine x_lor_any k231_652 (fun z205 b_z205 => ?_)
        refine x_callV k231_653 (y := 104) (n := 2) (w0 := 0) (w1 := 3) (as := [vi z198, vj z205]) (rest := []) (by decide +kernel) (q := 0) (nq := 12) (kq := 3) ⟨by decide, rfl⟩ rfl rfl rfl rfl (xe_mono (C_X10_feed_0 s hG z198 ⟨by omega, by omega⟩ z205 b_z205) ?_)
        rintro s207 v ⟨hG_s207, t_s207, z206, rfl, g_z206⟩
        have J_s207 : J s207 := J.fl i_J t_s207 (by decide)
        have T0_s207 : T0 s207 := T0.fl i_T0 t_s207 (by decide)
        have W1_s207 : W1 s207 := W1.fl i_W1 t_s207 (by decide)
        show xe (some (N, xs)) 231 656 [(0, .ref 2000), (1, .ref 0), (2, .ref 256), (3, vi x3)] [vi z206] s207 295 10442 _
        refine x_A k231_656 (fun _ => rfl) ?_
        refine x_A k231_657 (fun _ => rfl) ?_
        refine x_A k231_658 (fun _ => rfl) ?_
        refine x_A k231_659 (fun _ => rfl) ?_
        refine x_A k231_660 (fun _ => rfl) ?_
        refine x_iadd k231_661 ?_
        refine x_top (fun z208 e_z208 => ?_)
        refine x_scr k231_662 hN ⟨by omega, by omega⟩ (fun z209 g_z209 e_z209 => ?_)
        unfold in32 at g_z209
        have q_z209 : z209 = z198 := by rw [e_z209, e_z198, show z208 = z197 by omega]
        refine x_A k231_663 (fun _ => rfl) ?_
        refine x_A k231_664 (fun _ => rfl) ?_
        refine x_A k231_665 (fun _ => rfl) ?_
        refine x_iadd k231_666 ?_
        refine x_top (fun z210 e_z210 => ?_)
        refine x_scr k231_667 hN ⟨by omega, by omega⟩ (fun z211 g_z211 e_z211 => ?_)
        unfold in32 at g_z211
        have q_z211 : z211 = z200 := by rw [e_z211, e_z200, show z210 = z199 by omega]
        refine x_i2l k231_668 ⟨by omega, by omega⟩ ?_
        refine x_bipush k231_669 (by decide +kernel) ?_
        refine x_lshl_any k231_671 (fun z212 b_z212 => ?_)
        refine x_A k231_672 (fun _ => rfl) ?_
        refine x_A k231_673 (fun _ => rfl) ?_
        refine x_A k231_674 (fun _ => rfl) ?_
        refine x_iadd k231_675 ?_
        refine x_top (fun z213 e_z213 => ?_)
        refine x_scr k231_676 hN ⟨by omega, by omega⟩ (fun z214 g_z214 e_z214 => ?_)
        unfold in32 at g_z214
        have q_z214 : z214 = z203 := by rw [e_z214, e_z203, show z213 = z202 by omega]
        refine x_i2l k231_677 ⟨by omega, by omega⟩ ?_
        refine x_ldc2 k231_678 (z := 4294967295) rfl (by decide +kernel) ?_
        refine x_land_mask k231_681 ⟨by omega, by omega⟩ (fun z215 g_z215 => ?_)
        refine x_lor_any k231_682 (fun z216 b_z216 => ?_)
        refine x_callV k231_683 (y := 175) (n := 2) (w0 := 0) (w1 := 3) (as := [vi z209, vj z216]) (rest := []) (by decide +kernel) (q := 256) (nq := 62) (kq := 15) ⟨by decide, rfl⟩ rfl rfl rfl rfl (xe_mono (C_X11_feed_256 s207 hG_s207 z209 ⟨by omega, by omega⟩ z216 b_z216) ?_)
        rintro s218 v ⟨hG_s218, t_s218, z217, rfl, g_z217⟩
        have J_s218 : J s218 := J.fl J_s207 t_s218 (by decide)
        have T0_s218 : T0 s218 := T0.fl T0_s207 t_s218 (by decide)
        have W1_s218 : W1 s218 := W1.fl W1_s207 t_s218 (by decide)
        show xe (some (N, xs)) 231 686 [(0, .ref 2000), (1, .ref 0), (2, .ref 256), (3, vi x3)] [vi z217] s218 295 10442 _
        refine x_A k231_686 (fun _ => rfl) ?_
        refine x_goto k231_687 (t := 1300) rfl ?_
        refine x_iinc k231_1300 (ls' := [(3, vi (x3 + 7)), (0, .ref 2000), (1, .ref 0), (2, .ref 256)]) rfl (by decide) rfl ?_
        refine x_goto k231_1303 (t := 18) rfl ?_
        refine x_ls (l := [(0, .ref 2000), (1, .ref 0), (2, .ref 256), (3, vi (x3 + 7))]) (show ([0, 1, 2, 3] : List Nat).Nodup from by decide) ⟨rfl, rfl, rfl, rfl, trivial⟩ ?_
        exact ih s218 (x3 + 7) hG_s218 trivial ⟨by omega, by omega⟩ J_s218 T0_s218 W1_s218  (by omega)
      · rw [c5]
        refine x_B k231_33 rfl (fun _ => rfl) (fun _ => rfl) (fun _ _ => rfl) ?_
        show xe (some (N, xs)) 231 690 [(0, .ref 2000), (1, .ref 0), (2, .ref 256), (3, vi x3)] [] s 295 10442 _
        refine x_A k231_690 (fun _ => rfl) ?_
        refine x_A k231_691 (fun _ => rfl) ?_
        refine x_A k231_692 (fun _ => rfl) ?_
        refine x_A k231_693 (fun _ => rfl) ?_
        refine x_iadd k231_694 ?_
        refine x_top (fun z219 e_z219 => ?_)
        refine x_scr k231_695 hN ⟨by omega, by omega⟩ (fun z220 g_z220 e_z220 => ?_)
        unfold in32 at g_z220
        refine x_callV k231_696 (y := 105) (n := 1) (w0 := 0) (w1 := 1) (as := [vi z220]) (rest := []) (by decide +kernel) (q := 0) (nq := 12) (kq := 3) ⟨by decide, rfl⟩ rfl rfl rfl rfl (xe_mono (C_X10_rule_0 s hG z220 ⟨by omega, by omega⟩ i_J) ?_)
        rintro s222 v ⟨hG_s222, t_s222, z221, rfl, g_z221, J_s222⟩
        have T0_s222 : T0 s222 := T0.fl i_T0 t_s222 (by decide)
        have W1_s222 : W1 s222 := W1.fl i_W1 t_s222 (by decide)
        show xe (some (N, xs)) 231 699 [(0, .ref 2000), (1, .ref 0), (2, .ref 256), (3, vi x3)] [vi z221] s222 295 10442 _
        refine x_A k231_699 (fun _ => rfl) ?_
        refine x_A k231_700 (fun _ => rfl) ?_
        refine x_A k231_701 (fun _ => rfl) ?_
        refine x_A k231_702 (fun _ => rfl) ?_
        refine x_A k231_703 (fun _ => rfl) ?_
        refine x_iadd k231_704 ?_
        refine x_top (fun z223 e_z223 => ?_)
        refine x_scr k231_705 hN ⟨by omega, by omega⟩ (fun z224 g_z224 e_z224 => ?_)
        unfold in32 at g_z224
        have q_z224 : z224 = z220 := by rw [e_z224, e_z220, show z223 = z219 by omega]
        obtain ⟨z225, e_z225⟩ : ∃ z, z = s222 256 20 := ⟨_, rfl⟩
        have g_z225 : (0 : Int) ≤ s222 256 20 ∧ s222 256 20 ≤ 64 := hG_s222 256 20
        obtain ⟨z226, e_z226⟩ : ∃ z, z = s222 256 17 := ⟨_, rfl⟩
        have g_z226 : (0 : Int) ≤ s222 256 17 ∧ s222 256 17 ≤ 8 := hG_s222 256 17
        refine x_callV k231_706 (y := 187) (n := 1) (w0 := 0) (w1 := 1) (as := [vi z224]) (rest := []) (by decide +kernel) (q := 256) (nq := 62) (kq := 15) ⟨by decide, rfl⟩ rfl rfl rfl rfl (xe_mono (C_X11_rule_256 s222 hG_s222 z224 ⟨by omega, by omega⟩ ⟨by omega, by omega⟩ ⟨by omega, by omega⟩ J_s222) ?_)
        rintro s228 v ⟨hG_s228, t_s228, z227, rfl, g_z227, J_s228⟩
        have T0_s228 : T0 s228 := T0.fl T0_s222 t_s228 (by decide)
        have W1_s228 : W1 s228 := W1.fl W1_s222 t_s228 (by decide)
        show xe (some (N, xs)) 231 709 [(0, .ref 2000), (1, .ref 0), (2, .ref 256), (3, vi x3)] [vi z227] s228 295 10442 _
        refine x_A k231_709 (fun _ => rfl) ?_
        refine x_goto k231_710 (t := 1300) rfl ?_
        refine x_iinc k231_1300 (ls' := [(3, vi (x3 + 7)), (0, .ref 2000), (1, .ref 0), (2, .ref 256)]) rfl (by decide) rfl ?_
        refine x_goto k231_1303 (t := 18) rfl ?_
        refine x_ls (l := [(0, .ref 2000), (1, .ref 0), (2, .ref 256), (3, vi (x3 + 7))]) (show ([0, 1, 2, 3] : List Nat).Nodup from by decide) ⟨rfl, rfl, rfl, rfl, trivial⟩ ?_
        exact ih s228 (x3 + 7) hG_s228 trivial ⟨by omega, by omega⟩ J_s228 T0_s228 W1_s228  (by omega)
      · rw [c5]
        refine x_B k231_33 rfl (fun _ => rfl) (fun _ => rfl) (fun _ _ => rfl) ?_
        show xe (some (N, xs)) 231 713 [(0, .ref 2000), (1, .ref 0), (2, .ref 256), (3, vi x3)] [] s 295 10442 _
        refine x_A k231_713 (fun _ => rfl) ?_
        refine x_callV k231_714 (y := 106) (n := 0) (w0 := 0) (w1 := 0) (as := []) (rest := []) (by decide +kernel) (q := 0) (nq := 12) (kq := 3) ⟨by decide, rfl⟩ rfl rfl rfl rfl (xe_mono (C_X10_fault_0 s hG) ?_)
        rintro s230 v ⟨-, t_s230, z229, rfl, g_z229⟩
        rw [t_s230.nil]
        show xe (some (N, xs)) 231 717 [(0, .ref 2000), (1, .ref 0), (2, .ref 256), (3, vi x3)] [vi z229] s 295 10442 _
        refine x_A k231_717 (fun _ => rfl) ?_
        refine x_A k231_718 (fun _ => rfl) ?_
        refine x_callV k231_719 (y := 188) (n := 0) (w0 := 0) (w1 := 0) (as := []) (rest := []) (by decide +kernel) (q := 256) (nq := 62) (kq := 15) ⟨by decide, rfl⟩ rfl rfl rfl rfl (xe_mono (C_X11_fault_256 s hG) ?_)
        rintro s232 v ⟨-, t_s232, z231, rfl, g_z231⟩
        rw [t_s232.nil]
        show xe (some (N, xs)) 231 722 [(0, .ref 2000), (1, .ref 0), (2, .ref 256), (3, vi x3)] [vi z231] s 295 10442 _
        refine x_A k231_722 (fun _ => rfl) ?_
        refine x_goto k231_723 (t := 1300) rfl ?_
        refine x_iinc k231_1300 (ls' := [(3, vi (x3 + 7)), (0, .ref 2000), (1, .ref 0), (2, .ref 256)]) rfl (by decide) rfl ?_
        refine x_goto k231_1303 (t := 18) rfl ?_
        refine x_ls (l := [(0, .ref 2000), (1, .ref 0), (2, .ref 256), (3, vi (x3 + 7))]) (show ([0, 1, 2, 3] : List Nat).Nodup from by decide) ⟨rfl, rfl, rfl, rfl, trivial⟩ ?_
        exact ih s (x3 + 7) hG f ⟨by omega, by omega⟩ i_J i_T0 i_W1  (by omega)
      · rw [c5]
        refine x_B k231_33 rfl (fun _ => rfl) (fun _ => rfl) (fun _ _ => rfl) ?_
        show xe (some (N, xs)) 231 726 [(0, .ref 2000), (1, .ref 0), (2, .ref 256), (3, vi x3)] [] s 295 10442 _
        refine x_A k231_726 (fun _ => rfl) ?_
        refine x_A k231_727 (fun _ => rfl) ?_
        refine x_A k231_728 (fun _ => rfl) ?_
        refine x_A k231_729 (fun _ => rfl) ?_
        refine x_iadd k231_730 ?_
        refine x_top (fun z233 e_z233 => ?_)
        refine x_scr k231_731 hN ⟨by omega, by omega⟩ (fun z234 g_z234 e_z234 => ?_)
        unfold in32 at g_z234
        refine x_A k231_732 (fun _ => rfl) ?_
        refine x_A k231_733 (fun _ => rfl) ?_
        refine x_A k231_734 (fun _ => rfl) ?_
        refine x_iadd k231_735 ?_
        refine x_top (fun z235 e_z235 => ?_)
        refine x_scr k231_736 hN ⟨by omega, by omega⟩ (fun z236 g_z236 e_z236 => ?_)
        unfold in32 at g_z236
        refine x_callV k231_737 (y := 107) (n := 2) (w0 := 0) (w1 := 2) (as := [vi z234, vi z236]) (rest := []) (by decide +kernel) (q := 0) (nq := 12) (kq := 3) ⟨by decide, rfl⟩ rfl rfl rfl rfl (xe_mono (C_X10_force_0 s hG i_J z234 ⟨by omega, by omega⟩ z236 ⟨by omega, by omega⟩) ?_)
        rintro s238 v ⟨hG_s238, t_s238, z237, rfl, g_z237⟩
        have J_s238 : J s238 := J.fl i_J t_s238 (by decide)
        have T0_s238 : T0 s238 := T0.fl i_T0 t_s238 (by decide)
        have W1_s238 : W1 s238 := W1.fl i_W1 t_s238 (by decide)
        show xe (some (N, xs)) 231 740 [(0, .ref 2000), (1, .ref 0), (2, .ref 256), (3, vi x3)] [vi z237] s238 295 10442 _
        refine x_A k231_740 (fun _ => rfl) ?_
        refine x_A k231_741 (fun _ => rfl) ?_
        refine x_A k231_742 (fun _ => rfl) ?_
        refine x_A k231_743 (fun _ => rfl) ?_
        refine x_A k231_744 (fun _ => rfl) ?_
        refine x_iadd k231_745 ?_
        refine x_top (fun z239 e_z239 => ?_)
        refine x_scr k231_746 hN ⟨by omega, by omega⟩ (fun z240 g_z240 e_z240 => ?_)
        unfold in32 at g_z240
        have q_z240 : z240 = z234 := by rw [e_z240, e_z234, show z239 = z233 by omega]
        refine x_A k231_747 (fun _ => rfl) ?_
        refine x_A k231_748 (fun _ => rfl) ?_
        refine x_A k231_749 (fun _ => rfl) ?_
        refine x_iadd k231_750 ?_
        refine x_top (fun z241 e_z241 => ?_)
        refine x_scr k231_751 hN ⟨by omega, by omega⟩ (fun z242 g_z242 e_z242 => ?_)
        unfold in32 at g_z242
        have q_z242 : z242 = z236 := by rw [e_z242, e_z236, show z241 = z235 by omega]
        refine x_callV k231_752 (y := 189) (n := 2) (w0 := 0) (w1 := 2) (as := [vi z240, vi z242]) (rest := []) (by decide +kernel) (q := 256) (nq := 62) (kq := 15) ⟨by decide, rfl⟩ rfl rfl rfl rfl (xe_mono (C_X11_force_256 s238 hG_s238 J_s238 z240 ⟨by omega, by omega⟩ z242 ⟨by omega, by omega⟩) ?_)
        rintro s244 v ⟨hG_s244, t_s244, z243, rfl, g_z243⟩
        have J_s244 : J s244 := J.fl J_s238 t_s244 (by decide)
        have T0_s244 : T0 s244 := T0.fl T0_s238 t_s244 (by decide)
        have W1_s244 : W1 s244 := W1.fl W1_s238 t_s244 (by decide)
        show xe (some (N, xs)) 231 755 [(0, .ref 2000), (1, .ref 0), (2, .ref 256), (3, vi x3)] [vi z243] s244 295 10442 _
        refine x_A k231_755 (fun _ => rfl) ?_
        refine x_goto k231_756 (t := 1300) rfl ?_
        refine x_iinc k231_1300 (ls' := [(3, vi (x3 + 7)), (0, .ref 2000), (1, .ref 0), (2, .ref 256)]) rfl (by decide) rfl ?_
        refine x_goto k231_1303 (t := 18) rfl ?_
        refine x_ls (l := [(0, .ref 2000), (1, .ref 0), (2, .ref 256), (3, vi (x3 + 7))]) (show ([0, 1, 2, 3] : List Nat).Nodup from by decide) ⟨rfl, rfl, rfl, rfl, trivial⟩ ?_
        exact ih s244 (x3 + 7) hG_s244 trivial ⟨by omega, by omega⟩ J_s244 T0_s244 W1_s244  (by omega)
      · rw [c5]
        refine x_B k231_33 rfl (fun _ => rfl) (fun _ => rfl) (fun _ _ => rfl) ?_
        show xe (some (N, xs)) 231 759 [(0, .ref 2000), (1, .ref 0), (2, .ref 256), (3, vi x3)] [] s 295 10442 _
        refine x_A k231_759 (fun _ => rfl) ?_
        refine x_A k231_760 (fun _ => rfl) ?_
        refine x_A k231_761 (fun _ => rfl) ?_
        refine x_A k231_762 (fun _ => rfl) ?_
        refine x_iadd k231_763 ?_
        refine x_top (fun z245 e_z245 => ?_)
        refine x_scr k231_764 hN ⟨by omega, by omega⟩ (fun z246 g_z246 e_z246 => ?_)
        unfold in32 at g_z246
        refine x_A k231_765 (fun _ => rfl) ?_
        refine x_A k231_766 (fun _ => rfl) ?_
        refine x_A k231_767 (fun _ => rfl) ?_
        refine x_iadd k231_768 ?_
        refine x_top (fun z247 e_z247 => ?_)
        refine x_scr k231_769 hN ⟨by omega, by omega⟩ (fun z248 g_z248 e_z248 => ?_)
        unfold in32 at g_z248
        refine x_A k231_770 (fun _ => rfl) ?_
        refine x_A k231_771 (fun _ => rfl) ?_
        refine x_A k231_772 (fun _ => rfl) ?_
        refine x_iadd k231_773 ?_
        refine x_top (fun z249 e_z249 => ?_)
        refine x_scr k231_774 hN ⟨by omega, by omega⟩ (fun z250 g_z250 e_z250 => ?_)
        unfold in32 at g_z250
        obtain ⟨z251, e_z251⟩ : ∃ z, z = s 1 4 := ⟨_, rfl⟩
        have g_z251 : (1 : Int) ≤ s 1 4 ∧ s 1 4 ≤ 40 := hG 1 4
        refine x_callV k231_775 (y := 108) (n := 3) (w0 := 0) (w1 := 3) (as := [vi z246, vi z248, vi z250]) (rest := []) (by decide +kernel) (q := 0) (nq := 12) (kq := 3) ⟨by decide, rfl⟩ rfl rfl rfl rfl (xe_mono (E_X10_word_0 s hG z246 ⟨by omega, by omega⟩ z248 ⟨by omega, by omega⟩ z250 ⟨by omega, by omega⟩ ⟨by omega, by omega⟩) ?_)
        rintro s253 v ⟨hG_s253, t_s253, z252, rfl, g_z252, xp_z252⟩
        have q254 : s253 1 4 = z251 := (t_s253 1 4 (show 69 ∉ [2244, 2304, 2368, 2432] from by decide)).trans e_z251.symm
        have J_s253 : J s253 := J.fl i_J t_s253 (by decide)
        have T0_s253 : T0 s253 := T0.fl i_T0 t_s253 (by decide)
        show xe (some (N, xs)) 231 778 [(0, .ref 2000), (1, .ref 0), (2, .ref 256), (3, vi x3)] [vi z252] s253 295 10442 _
        refine x_A k231_778 (fun _ => rfl) ?_
        refine x_A k231_779 (fun _ => rfl) ?_
        refine x_A k231_780 (fun _ => rfl) ?_
        refine x_A k231_781 (fun _ => rfl) ?_
        refine x_iadd k231_782 ?_
        refine x_top (fun z255 e_z255 => ?_)
        refine x_scr k231_783 hN ⟨by omega, by omega⟩ (fun z256 g_z256 e_z256 => ?_)
        unfold in32 at g_z256
        have q_z256 : z256 = z246 := by rw [e_z256, e_z246, show z255 = z245 by omega]
        refine x_A k231_784 (fun _ => rfl) ?_
        refine x_A k231_785 (fun _ => rfl) ?_
        refine x_A k231_786 (fun _ => rfl) ?_
        refine x_iadd k231_787 ?_
        refine x_top (fun z257 e_z257 => ?_)
        refine x_scr k231_788 hN ⟨by omega, by omega⟩ (fun z258 g_z258 e_z258 => ?_)
        unfold in32 at g_z258
        have q_z258 : z258 = z248 := by rw [e_z258, e_z248, show z257 = z247 by omega]
        refine x_A k231_789 (fun _ => rfl) ?_
        refine x_A k231_790 (fun _ => rfl) ?_
        refine x_A k231_791 (fun _ => rfl) ?_
        refine x_iadd k231_792 ?_
        refine x_top (fun z259 e_z259 => ?_)
        refine x_scr k231_793 hN ⟨by omega, by omega⟩ (fun z260 g_z260 e_z260 => ?_)
        unfold in32 at g_z260
        have q_z260 : z260 = z250 := by rw [e_z260, e_z250, show z259 = z249 by omega]
        obtain ⟨z261, e_z261⟩ : ∃ z, z = s253 256 1 := ⟨_, rfl⟩
        have g_z261 : (1 : Int) ≤ s253 256 1 ∧ s253 256 1 ≤ 40 := hG_s253 256 1
        refine x_callV k231_794 (y := 192) (n := 3) (w0 := 1) (w1 := 3) (as := [vi z256, vi z258, vi z260]) (rest := [vi z252]) (by decide +kernel) (q := 256) (nq := 62) (kq := 15) ⟨by decide, rfl⟩ rfl rfl rfl rfl (xe_mono (E_X11_word_256 s253 hG_s253 z256 ⟨by omega, by omega⟩ z258 ⟨by omega, by omega⟩ z260 ⟨by omega, by omega⟩ ⟨by omega, by omega⟩) ?_)
        rintro s263 v ⟨hG_s263, t_s263, z262, rfl, g_z262, xp_z262⟩
        have q264 : s263 1 4 = z251 := (t_s263 1 4 (show 69 ∉ [4137, 5888, 5952] from by decide)).trans q254
        have q265 : s263 256 1 = z261 := (t_s263 256 1 (show 4098 ∉ [4137, 5888, 5952] from by decide)).trans e_z261.symm
        have J_s263 : J s263 := J.fl J_s253 t_s263 (by decide)
        have T0_s263 : T0 s263 := T0.fl T0_s253 t_s263 (by decide)
        obtain ⟨z266, e_z266⟩ : ∃ z, z = s263 256 40 := ⟨_, rfl⟩
        have g_z266 : (0 : Int) ≤ s263 256 40 ∧ s263 256 40 ≤ 60 := hG_s263 256 40
        show xe (some (N, xs)) 231 797 [(0, .ref 2000), (1, .ref 0), (2, .ref 256), (3, vi x3)] [vi z262, vi z252] s263 295 10442 _
        obtain ⟨ez_s263, W1_s263⟩ := W1.word i_W1 i_T0.2.1 hG hG_s263 t_s253 t_s263 (by decide) (by decide) xp_z252 (by rw [← q_z256, ← q_z258, ← q_z260]; exact xp_z262)
        refine x_ic_eq k231_797 (t := 1300) rfl ⟨by omega, by omega⟩ ⟨by omega, by omega⟩ (fun c267 => ?_) (fun c267 => ?_)
        · skip
          refine x_iinc k231_1300 (ls' := [(3, vi (x3 + 7)), (0, .ref 2000), (1, .ref 0), (2, .ref 256)]) rfl (by decide) rfl ?_
          refine x_goto k231_1303 (t := 18) rfl ?_
          refine x_ls (l := [(0, .ref 2000), (1, .ref 0), (2, .ref 256), (3, vi (x3 + 7))]) (show ([0, 1, 2, 3] : List Nat).Nodup from by decide) ⟨rfl, rfl, rfl, rfl, trivial⟩ ?_
          exact ih s263 (x3 + 7) hG_s263 trivial ⟨by omega, by omega⟩ J_s263 T0_s263 W1_s263  (by omega)
        · skip
          refine x_A k231_800 (fun _ => rfl) ?_
          exfalso; omega
      · rw [c5]
        refine x_B k231_33 rfl (fun _ => rfl) (fun _ => rfl) (fun _ _ => rfl) ?_
        show xe (some (N, xs)) 231 802 [(0, .ref 2000), (1, .ref 0), (2, .ref 256), (3, vi x3)] [] s 295 10442 _
        refine x_A k231_802 (fun _ => rfl) ?_
        refine x_A k231_803 (fun _ => rfl) ?_
        refine x_A k231_804 (fun _ => rfl) ?_
        refine x_A k231_805 (fun _ => rfl) ?_
        refine x_iadd k231_806 ?_
        refine x_top (fun z268 e_z268 => ?_)
        refine x_scr k231_807 hN ⟨by omega, by omega⟩ (fun z269 g_z269 e_z269 => ?_)
        unfold in32 at g_z269
        refine x_A k231_808 (fun _ => rfl) ?_
        refine x_A k231_809 (fun _ => rfl) ?_
        refine x_A k231_810 (fun _ => rfl) ?_
        refine x_iadd k231_811 ?_
        refine x_top (fun z270 e_z270 => ?_)
        refine x_scr k231_812 hN ⟨by omega, by omega⟩ (fun z271 g_z271 e_z271 => ?_)
        unfold in32 at g_z271
        refine x_callV k231_813 (y := 109) (n := 2) (w0 := 0) (w1 := 2) (as := [vi z269, vi z271]) (rest := []) (by decide +kernel) (q := 0) (nq := 12) (kq := 3) ⟨by decide, rfl⟩ rfl rfl rfl rfl (xe_mono (C_X10_leads_0 s hG z269 ⟨by omega, by omega⟩ z271 ⟨by omega, by omega⟩) ?_)
        rintro s273 v ⟨-, t_s273, z272, rfl, g_z272⟩
        rw [t_s273.nil]
        show xe (some (N, xs)) 231 816 [(0, .ref 2000), (1, .ref 0), (2, .ref 256), (3, vi x3)] [vi z272] s 295 10442 _
        refine x_A k231_816 (fun _ => rfl) ?_
        refine x_A k231_817 (fun _ => rfl) ?_
        refine x_A k231_818 (fun _ => rfl) ?_
        refine x_A k231_819 (fun _ => rfl) ?_
        refine x_A k231_820 (fun _ => rfl) ?_
        refine x_iadd k231_821 ?_
        refine x_top (fun z274 e_z274 => ?_)
        refine x_scr k231_822 hN ⟨by omega, by omega⟩ (fun z275 g_z275 e_z275 => ?_)
        unfold in32 at g_z275
        have q_z275 : z275 = z269 := by rw [e_z275, e_z269, show z274 = z268 by omega]
        refine x_A k231_823 (fun _ => rfl) ?_
        refine x_A k231_824 (fun _ => rfl) ?_
        refine x_A k231_825 (fun _ => rfl) ?_
        refine x_iadd k231_826 ?_
        refine x_top (fun z276 e_z276 => ?_)
        refine x_scr k231_827 hN ⟨by omega, by omega⟩ (fun z277 g_z277 e_z277 => ?_)
        unfold in32 at g_z277
        have q_z277 : z277 = z271 := by rw [e_z277, e_z271, show z276 = z270 by omega]
        refine x_callV k231_828 (y := 193) (n := 2) (w0 := 0) (w1 := 2) (as := [vi z275, vi z277]) (rest := []) (by decide +kernel) (q := 256) (nq := 62) (kq := 15) ⟨by decide, rfl⟩ rfl rfl rfl rfl (xe_mono (C_X11_leads_256 s hG z275 ⟨by omega, by omega⟩ z277 ⟨by omega, by omega⟩) ?_)
        rintro s279 v ⟨-, t_s279, z278, rfl, g_z278⟩
        rw [t_s279.nil]
        show xe (some (N, xs)) 231 831 [(0, .ref 2000), (1, .ref 0), (2, .ref 256), (3, vi x3)] [vi z278] s 295 10442 _
        refine x_A k231_831 (fun _ => rfl) ?_
        refine x_goto k231_832 (t := 1300) rfl ?_
        refine x_iinc k231_1300 (ls' := [(3, vi (x3 + 7)), (0, .ref 2000), (1, .ref 0), (2, .ref 256)]) rfl (by decide) rfl ?_
        refine x_goto k231_1303 (t := 18) rfl ?_
        refine x_ls (l := [(0, .ref 2000), (1, .ref 0), (2, .ref 256), (3, vi (x3 + 7))]) (show ([0, 1, 2, 3] : List Nat).Nodup from by decide) ⟨rfl, rfl, rfl, rfl, trivial⟩ ?_
        exact ih s (x3 + 7) hG f ⟨by omega, by omega⟩ i_J i_T0 i_W1  (by omega)
      · rw [c5]
        refine x_B k231_33 rfl (fun _ => rfl) (fun _ => rfl) (fun _ _ => rfl) ?_
        show xe (some (N, xs)) 231 835 [(0, .ref 2000), (1, .ref 0), (2, .ref 256), (3, vi x3)] [] s 295 10442 _
        refine x_A k231_835 (fun _ => rfl) ?_
        refine x_callV k231_836 (y := 110) (n := 0) (w0 := 0) (w1 := 0) (as := []) (rest := []) (by decide +kernel) (q := 0) (nq := 12) (kq := 3) ⟨by decide, rfl⟩ rfl rfl rfl rfl (xe_mono (C_X10_ask_0 s hG) ?_)
        rintro s281 v ⟨hG_s281, t_s281, z280, rfl, g_z280⟩
        have J_s281 : J s281 := J.fl i_J t_s281 (by decide)
        have T0_s281 : T0 s281 := T0.fl i_T0 t_s281 (by decide)
        have W1_s281 : W1 s281 := W1.fl i_W1 t_s281 (by decide)
        show xe (some (N, xs)) 231 839 [(0, .ref 2000), (1, .ref 0), (2, .ref 256), (3, vi x3)] [vi z280] s281 295 10442 _
        refine x_A k231_839 (fun _ => rfl) ?_
        refine x_A k231_840 (fun _ => rfl) ?_
        obtain ⟨z282, e_z282⟩ : ∃ z, z = s281 256 47 := ⟨_, rfl⟩
        have g_z282 : (0 : Int) ≤ s281 256 47 ∧ s281 256 47 ≤ 110 := hG_s281 256 47
        obtain ⟨z283, e_z283⟩ : ∃ z, z = s281 256 48 := ⟨_, rfl⟩
        have g_z283 : (0 : Int) ≤ s281 256 48 ∧ s281 256 48 ≤ 120 := hG_s281 256 48
        obtain ⟨z284, e_z284⟩ : ∃ z, z = s281 256 36 := ⟨_, rfl⟩
        have g_z284 : (0 : Int) ≤ s281 256 36 ∧ s281 256 36 ≤ 160 := hG_s281 256 36
        obtain ⟨z285, e_z285⟩ : ∃ z, z = s281 256 34 := ⟨_, rfl⟩
        have g_z285 : (0 : Int) ≤ s281 256 34 ∧ s281 256 34 ≤ 160 := hG_s281 256 34
        obtain ⟨z286, e_z286⟩ : ∃ z, z = s281 256 43 := ⟨_, rfl⟩
        have g_z286 : (0 : Int) ≤ s281 256 43 ∧ s281 256 43 ≤ 8 := hG_s281 256 43
        obtain ⟨z287, e_z287⟩ : ∃ z, z = s281 256 50 := ⟨_, rfl⟩
        have g_z287 : (0 : Int) ≤ s281 256 50 ∧ s281 256 50 ≤ 5 := hG_s281 256 50
        obtain ⟨z288, e_z288⟩ : ∃ z, z = s281 256 51 := ⟨_, rfl⟩
        have g_z288 : (0 : Int) ≤ s281 256 51 ∧ s281 256 51 ≤ 1 := hG_s281 256 51
        refine x_callV k231_841 (y := 200) (n := 0) (w0 := 0) (w1 := 0) (as := []) (rest := []) (by decide +kernel) (q := 256) (nq := 62) (kq := 15) ⟨by decide, rfl⟩ rfl rfl rfl rfl (xe_mono (C_X11_ask_256 s281 hG_s281 ⟨by omega, by omega⟩ ⟨by omega, by omega⟩ ⟨by omega, by omega⟩ ⟨by omega, by omega⟩ ⟨by omega, by omega⟩ ⟨by omega, by omega⟩ ⟨by omega, by omega⟩ J_s281) ?_)
        rintro s290 v ⟨hG_s290, t_s290, z289, rfl, g_z289, J_s290⟩
        have T0_s290 : T0 s290 := T0.fl T0_s281 t_s290 (by decide)
        have W1_s290 : W1 s290 := W1.fl W1_s281 t_s290 (by decide)
        show xe (some (N, xs)) 231 844 [(0, .ref 2000), (1, .ref 0), (2, .ref 256), (3, vi x3)] [vi z289] s290 295 10442 _
        refine x_A k231_844 (fun _ => rfl) ?_
        refine x_goto k231_845 (t := 1300) rfl ?_
        refine x_iinc k231_1300 (ls' := [(3, vi (x3 + 7)), (0, .ref 2000), (1, .ref 0), (2, .ref 256)]) rfl (by decide) rfl ?_
        refine x_goto k231_1303 (t := 18) rfl ?_
        refine x_ls (l := [(0, .ref 2000), (1, .ref 0), (2, .ref 256), (3, vi (x3 + 7))]) (show ([0, 1, 2, 3] : List Nat).Nodup from by decide) ⟨rfl, rfl, rfl, rfl, trivial⟩ ?_
        exact ih s290 (x3 + 7) hG_s290 trivial ⟨by omega, by omega⟩ J_s290 T0_s290 W1_s290  (by omega)
      · rw [c5]
        refine x_B k231_33 rfl (fun _ => rfl) (fun _ => rfl) (fun _ _ => rfl) ?_
        show xe (some (N, xs)) 231 848 [(0, .ref 2000), (1, .ref 0), (2, .ref 256), (3, vi x3)] [] s 295 10442 _
        refine x_A k231_848 (fun _ => rfl) ?_
        refine x_A k231_849 (fun _ => rfl) ?_
        refine x_A k231_850 (fun _ => rfl) ?_
        refine x_A k231_851 (fun _ => rfl) ?_
        refine x_iadd k231_852 ?_
        refine x_top (fun z291 e_z291 => ?_)
        refine x_scr k231_853 hN ⟨by omega, by omega⟩ (fun z292 g_z292 e_z292 => ?_)
        unfold in32 at g_z292
        refine x_A k231_854 (fun _ => rfl) ?_
        refine x_A k231_855 (fun _ => rfl) ?_
        refine x_A k231_856 (fun _ => rfl) ?_
        refine x_iadd k231_857 ?_
        refine x_top (fun z293 e_z293 => ?_)
        refine x_scr k231_858 hN ⟨by omega, by omega⟩ (fun z294 g_z294 e_z294 => ?_)
        unfold in32 at g_z294
        refine x_A k231_859 (fun _ => rfl) ?_
        refine x_A k231_860 (fun _ => rfl) ?_
        refine x_A k231_861 (fun _ => rfl) ?_
        refine x_iadd k231_862 ?_
        refine x_top (fun z295 e_z295 => ?_)
        refine x_scr k231_863 hN ⟨by omega, by omega⟩ (fun z296 g_z296 e_z296 => ?_)
        unfold in32 at g_z296
        refine x_callV k231_864 (y := 111) (n := 3) (w0 := 0) (w1 := 3) (as := [vi z292, vi z294, vi z296]) (rest := []) (by decide +kernel) (q := 0) (nq := 12) (kq := 3) ⟨by decide, rfl⟩ rfl rfl rfl rfl (xe_mono (C_X10_met_0 s hG i_J z292 ⟨by omega, by omega⟩ z294 ⟨by omega, by omega⟩ z296 ⟨by omega, by omega⟩) ?_)
        rintro s298 v ⟨hG_s298, t_s298, z297, rfl, g_z297⟩
        have J_s298 : J s298 := J.fl i_J t_s298 (by decide)
        have T0_s298 : T0 s298 := T0.fl i_T0 t_s298 (by decide)
        have W1_s298 : W1 s298 := W1.fl i_W1 t_s298 (by decide)
        show xe (some (N, xs)) 231 867 [(0, .ref 2000), (1, .ref 0), (2, .ref 256), (3, vi x3)] [vi z297] s298 295 10442 _
        refine x_A k231_867 (fun _ => rfl) ?_
        refine x_A k231_868 (fun _ => rfl) ?_
        refine x_A k231_869 (fun _ => rfl) ?_
        refine x_A k231_870 (fun _ => rfl) ?_
        refine x_A k231_871 (fun _ => rfl) ?_
        refine x_iadd k231_872 ?_
        refine x_top (fun z299 e_z299 => ?_)
        refine x_scr k231_873 hN ⟨by omega, by omega⟩ (fun z300 g_z300 e_z300 => ?_)
        unfold in32 at g_z300
        have q_z300 : z300 = z292 := by rw [e_z300, e_z292, show z299 = z291 by omega]
        refine x_A k231_874 (fun _ => rfl) ?_
        refine x_A k231_875 (fun _ => rfl) ?_
        refine x_A k231_876 (fun _ => rfl) ?_
        refine x_iadd k231_877 ?_
        refine x_top (fun z301 e_z301 => ?_)
        refine x_scr k231_878 hN ⟨by omega, by omega⟩ (fun z302 g_z302 e_z302 => ?_)
        unfold in32 at g_z302
        have q_z302 : z302 = z294 := by rw [e_z302, e_z294, show z301 = z293 by omega]
        refine x_A k231_879 (fun _ => rfl) ?_
        refine x_A k231_880 (fun _ => rfl) ?_
        refine x_A k231_881 (fun _ => rfl) ?_
        refine x_iadd k231_882 ?_
        refine x_top (fun z303 e_z303 => ?_)
        refine x_scr k231_883 hN ⟨by omega, by omega⟩ (fun z304 g_z304 e_z304 => ?_)
        unfold in32 at g_z304
        have q_z304 : z304 = z296 := by rw [e_z304, e_z296, show z303 = z295 by omega]
        refine x_callV k231_884 (y := 204) (n := 3) (w0 := 0) (w1 := 3) (as := [vi z300, vi z302, vi z304]) (rest := []) (by decide +kernel) (q := 256) (nq := 62) (kq := 15) ⟨by decide, rfl⟩ rfl rfl rfl rfl (xe_mono (C_X11_met_256 s298 hG_s298 J_s298 z300 ⟨by omega, by omega⟩ z302 ⟨by omega, by omega⟩ z304 ⟨by omega, by omega⟩) ?_)
        rintro s306 v ⟨hG_s306, t_s306, z305, rfl, g_z305⟩
        have J_s306 : J s306 := J.fl J_s298 t_s306 (by decide)
        have T0_s306 : T0 s306 := T0.fl T0_s298 t_s306 (by decide)
        have W1_s306 : W1 s306 := W1.fl W1_s298 t_s306 (by decide)
        show xe (some (N, xs)) 231 887 [(0, .ref 2000), (1, .ref 0), (2, .ref 256), (3, vi x3)] [vi z305] s306 295 10442 _
        refine x_A k231_887 (fun _ => rfl) ?_
        refine x_goto k231_888 (t := 1300) rfl ?_
        refine x_iinc k231_1300 (ls' := [(3, vi (x3 + 7)), (0, .ref 2000), (1, .ref 0), (2, .ref 256)]) rfl (by decide) rfl ?_
        refine x_goto k231_1303 (t := 18) rfl ?_
        refine x_ls (l := [(0, .ref 2000), (1, .ref 0), (2, .ref 256), (3, vi (x3 + 7))]) (show ([0, 1, 2, 3] : List Nat).Nodup from by decide) ⟨rfl, rfl, rfl, rfl, trivial⟩ ?_
        exact ih s306 (x3 + 7) hG_s306 trivial ⟨by omega, by omega⟩ J_s306 T0_s306 W1_s306  (by omega)
      · rw [c5]
        refine x_B k231_33 rfl (fun _ => rfl) (fun _ => rfl) (fun _ _ => rfl) ?_
        show xe (some (N, xs)) 231 891 [(0, .ref 2000), (1, .ref 0), (2, .ref 256), (3, vi x3)] [] s 295 10442 _
        refine x_A k231_891 (fun _ => rfl) ?_
        refine x_A k231_892 (fun _ => rfl) ?_
        refine x_A k231_893 (fun _ => rfl) ?_
        refine x_A k231_894 (fun _ => rfl) ?_
        refine x_iadd k231_895 ?_
        refine x_top (fun z307 e_z307 => ?_)
        refine x_scr k231_896 hN ⟨by omega, by omega⟩ (fun z308 g_z308 e_z308 => ?_)
        unfold in32 at g_z308
        refine x_A k231_897 (fun _ => rfl) ?_
        refine x_A k231_898 (fun _ => rfl) ?_
        refine x_A k231_899 (fun _ => rfl) ?_
        refine x_iadd k231_900 ?_
        refine x_top (fun z309 e_z309 => ?_)
        refine x_scr k231_901 hN ⟨by omega, by omega⟩ (fun z310 g_z310 e_z310 => ?_)
        unfold in32 at g_z310
        refine x_A k231_902 (fun _ => rfl) ?_
        refine x_A k231_903 (fun _ => rfl) ?_
        refine x_A k231_904 (fun _ => rfl) ?_
        refine x_iadd k231_905 ?_
        refine x_top (fun z311 e_z311 => ?_)
        refine x_scr k231_906 hN ⟨by omega, by omega⟩ (fun z312 g_z312 e_z312 => ?_)
        unfold in32 at g_z312
        refine x_A k231_907 (fun _ => rfl) ?_
        refine x_A k231_908 (fun _ => rfl) ?_
        refine x_A k231_909 (fun _ => rfl) ?_
        refine x_iadd k231_910 ?_
        refine x_top (fun z313 e_z313 => ?_)
        refine x_scr k231_911 hN ⟨by omega, by omega⟩ (fun z314 g_z314 e_z314 => ?_)
        unfold in32 at g_z314
        refine x_A k231_912 (fun _ => rfl) ?_
        refine x_A k231_913 (fun _ => rfl) ?_
        refine x_A k231_914 (fun _ => rfl) ?_
        refine x_iadd k231_915 ?_
        refine x_top (fun z315 e_z315 => ?_)
        refine x_scr k231_916 hN ⟨by omega, by omega⟩ (fun z316 g_z316 e_z316 => ?_)
        unfold in32 at g_z316
        refine x_callV k231_917 (y := 112) (n := 5) (w0 := 0) (w1 := 5) (as := [vi z308, vi z310, vi z312, vi z314, vi z316]) (rest := []) (by decide +kernel) (q := 0) (nq := 12) (kq := 3) ⟨by decide, rfl⟩ rfl rfl rfl rfl (xe_mono (C_X10_hands_0 s hG i_J z308 ⟨by omega, by omega⟩ z310 ⟨by omega, by omega⟩ z312 ⟨by omega, by omega⟩ z314 ⟨by omega, by omega⟩ z316 ⟨by omega, by omega⟩) ?_)
        rintro s318 v ⟨hG_s318, t_s318, z317, rfl, g_z317⟩
        have J_s318 : J s318 := J.fl i_J t_s318 (by decide)
        have T0_s318 : T0 s318 := T0.fl i_T0 t_s318 (by decide)
        have W1_s318 : W1 s318 := W1.fl i_W1 t_s318 (by decide)
        show xe (some (N, xs)) 231 920 [(0, .ref 2000), (1, .ref 0), (2, .ref 256), (3, vi x3)] [vi z317] s318 295 10442 _
        refine x_A k231_920 (fun _ => rfl) ?_
        refine x_A k231_921 (fun _ => rfl) ?_
        refine x_A k231_922 (fun _ => rfl) ?_
        refine x_A k231_923 (fun _ => rfl) ?_
        refine x_A k231_924 (fun _ => rfl) ?_
        refine x_iadd k231_925 ?_
        refine x_top (fun z319 e_z319 => ?_)
        refine x_scr k231_926 hN ⟨by omega, by omega⟩ (fun z320 g_z320 e_z320 => ?_)
        unfold in32 at g_z320
        have q_z320 : z320 = z308 := by rw [e_z320, e_z308, show z319 = z307 by omega]
        refine x_A k231_927 (fun _ => rfl) ?_
        refine x_A k231_928 (fun _ => rfl) ?_
        refine x_A k231_929 (fun _ => rfl) ?_
        refine x_iadd k231_930 ?_
        refine x_top (fun z321 e_z321 => ?_)
        refine x_scr k231_931 hN ⟨by omega, by omega⟩ (fun z322 g_z322 e_z322 => ?_)
        unfold in32 at g_z322
        have q_z322 : z322 = z310 := by rw [e_z322, e_z310, show z321 = z309 by omega]
        refine x_A k231_932 (fun _ => rfl) ?_
        refine x_A k231_933 (fun _ => rfl) ?_
        refine x_A k231_934 (fun _ => rfl) ?_
        refine x_iadd k231_935 ?_
        refine x_top (fun z323 e_z323 => ?_)
        refine x_scr k231_936 hN ⟨by omega, by omega⟩ (fun z324 g_z324 e_z324 => ?_)
        unfold in32 at g_z324
        have q_z324 : z324 = z312 := by rw [e_z324, e_z312, show z323 = z311 by omega]
        refine x_A k231_937 (fun _ => rfl) ?_
        refine x_A k231_938 (fun _ => rfl) ?_
        refine x_A k231_939 (fun _ => rfl) ?_
        refine x_iadd k231_940 ?_
        refine x_top (fun z325 e_z325 => ?_)
        refine x_scr k231_941 hN ⟨by omega, by omega⟩ (fun z326 g_z326 e_z326 => ?_)
        unfold in32 at g_z326
        have q_z326 : z326 = z314 := by rw [e_z326, e_z314, show z325 = z313 by omega]
        refine x_A k231_942 (fun _ => rfl) ?_
        refine x_A k231_943 (fun _ => rfl) ?_
        refine x_A k231_944 (fun _ => rfl) ?_
        refine x_iadd k231_945 ?_
        refine x_top (fun z327 e_z327 => ?_)
        refine x_scr k231_946 hN ⟨by omega, by omega⟩ (fun z328 g_z328 e_z328 => ?_)
        unfold in32 at g_z328
        have q_z328 : z328 = z316 := by rw [e_z328, e_z316, show z327 = z315 by omega]
        refine x_callV k231_947 (y := 206) (n := 5) (w0 := 0) (w1 := 5) (as := [vi z320, vi z322, vi z324, vi z326, vi z328]) (rest := []) (by decide +kernel) (q := 256) (nq := 62) (kq := 15) ⟨by decide, rfl⟩ rfl rfl rfl rfl (xe_mono (C_X11_hands_256 s318 hG_s318 J_s318 z320 ⟨by omega, by omega⟩ z322 ⟨by omega, by omega⟩ z324 ⟨by omega, by omega⟩ z326 ⟨by omega, by omega⟩ z328 ⟨by omega, by omega⟩) ?_)
        rintro s330 v ⟨hG_s330, t_s330, z329, rfl, g_z329⟩
        have J_s330 : J s330 := J.fl J_s318 t_s330 (by decide)
        have T0_s330 : T0 s330 := T0.fl T0_s318 t_s330 (by decide)
        have W1_s330 : W1 s330 := W1.fl W1_s318 t_s330 (by decide)
        show xe (some (N, xs)) 231 950 [(0, .ref 2000), (1, .ref 0), (2, .ref 256), (3, vi x3)] [vi z329] s330 295 10442 _
        refine x_A k231_950 (fun _ => rfl) ?_
        refine x_goto k231_951 (t := 1300) rfl ?_
        refine x_iinc k231_1300 (ls' := [(3, vi (x3 + 7)), (0, .ref 2000), (1, .ref 0), (2, .ref 256)]) rfl (by decide) rfl ?_
        refine x_goto k231_1303 (t := 18) rfl ?_
        refine x_ls (l := [(0, .ref 2000), (1, .ref 0), (2, .ref 256), (3, vi (x3 + 7))]) (show ([0, 1, 2, 3] : List Nat).Nodup from by decide) ⟨rfl, rfl, rfl, rfl, trivial⟩ ?_
        exact ih s330 (x3 + 7) hG_s330 trivial ⟨by omega, by omega⟩ J_s330 T0_s330 W1_s330  (by omega)
      · rw [c5]
        refine x_B k231_33 rfl (fun _ => rfl) (fun _ => rfl) (fun _ _ => rfl) ?_
        show xe (some (N, xs)) 231 954 [(0, .ref 2000), (1, .ref 0), (2, .ref 256), (3, vi x3)] [] s 295 10442 _
        refine x_A k231_954 (fun _ => rfl) ?_
        refine x_A k231_955 (fun _ => rfl) ?_
        refine x_A k231_956 (fun _ => rfl) ?_
        refine x_A k231_957 (fun _ => rfl) ?_
        refine x_iadd k231_958 ?_
        refine x_top (fun z331 e_z331 => ?_)
        refine x_scr k231_959 hN ⟨by omega, by omega⟩ (fun z332 g_z332 e_z332 => ?_)
        unfold in32 at g_z332
        refine x_A k231_960 (fun _ => rfl) ?_
        refine x_A k231_961 (fun _ => rfl) ?_
        refine x_A k231_962 (fun _ => rfl) ?_
        refine x_iadd k231_963 ?_
        refine x_top (fun z333 e_z333 => ?_)
        refine x_scr k231_964 hN ⟨by omega, by omega⟩ (fun z334 g_z334 e_z334 => ?_)
        unfold in32 at g_z334
        refine x_A k231_965 (fun _ => rfl) ?_
        refine x_A k231_966 (fun _ => rfl) ?_
        refine x_A k231_967 (fun _ => rfl) ?_
        refine x_iadd k231_968 ?_
        refine x_top (fun z335 e_z335 => ?_)
        refine x_scr k231_969 hN ⟨by omega, by omega⟩ (fun z336 g_z336 e_z336 => ?_)
        unfold in32 at g_z336
        refine x_A k231_970 (fun _ => rfl) ?_
        refine x_A k231_971 (fun _ => rfl) ?_
        refine x_A k231_972 (fun _ => rfl) ?_
        refine x_iadd k231_973 ?_
        refine x_top (fun z337 e_z337 => ?_)
        refine x_scr k231_974 hN ⟨by omega, by omega⟩ (fun z338 g_z338 e_z338 => ?_)
        unfold in32 at g_z338
        refine x_A k231_975 (fun _ => rfl) ?_
        refine x_A k231_976 (fun _ => rfl) ?_
        refine x_A k231_977 (fun _ => rfl) ?_
        refine x_iadd k231_978 ?_
        refine x_top (fun z339 e_z339 => ?_)
        refine x_scr k231_979 hN ⟨by omega, by omega⟩ (fun z340 g_z340 e_z340 => ?_)
        unfold in32 at g_z340
        refine x_A k231_980 (fun _ => rfl) ?_
        refine x_A k231_981 (fun _ => rfl) ?_
        refine x_bipush k231_982 (by decide +kernel) ?_
        refine x_iadd k231_984 ?_
        refine x_top (fun z341 e_z341 => ?_)
        refine x_scr k231_985 hN ⟨by omega, by omega⟩ (fun z342 g_z342 e_z342 => ?_)
        unfold in32 at g_z342
        refine x_callV k231_986 (y := 113) (n := 6) (w0 := 0) (w1 := 6) (as := [vi z332, vi z334, vi z336, vi z338, vi z340, vi z342]) (rest := []) (by decide +kernel) (q := 0) (nq := 12) (kq := 3) ⟨by decide, rfl⟩ rfl rfl rfl rfl (xe_mono (C_X10_together_0 s hG i_J z332 ⟨by omega, by omega⟩ z334 ⟨by omega, by omega⟩ z336 ⟨by omega, by omega⟩ z338 ⟨by omega, by omega⟩ z340 ⟨by omega, by omega⟩ z342 ⟨by omega, by omega⟩) ?_)
        rintro s344 v ⟨hG_s344, t_s344, z343, rfl, g_z343⟩
        have J_s344 : J s344 := J.fl i_J t_s344 (by decide)
        have T0_s344 : T0 s344 := T0.fl i_T0 t_s344 (by decide)
        have W1_s344 : W1 s344 := W1.fl i_W1 t_s344 (by decide)
        show xe (some (N, xs)) 231 989 [(0, .ref 2000), (1, .ref 0), (2, .ref 256), (3, vi x3)] [vi z343] s344 295 10442 _
        refine x_A k231_989 (fun _ => rfl) ?_
        refine x_A k231_990 (fun _ => rfl) ?_
        refine x_A k231_991 (fun _ => rfl) ?_
        refine x_A k231_992 (fun _ => rfl) ?_
        refine x_A k231_993 (fun _ => rfl) ?_
        refine x_iadd k231_994 ?_
        refine x_top (fun z345 e_z345 => ?_)
        refine x_scr k231_995 hN ⟨by omega, by omega⟩ (fun z346 g_z346 e_z346 => ?_)
        unfold in32 at g_z346
        have q_z346 : z346 = z332 := by rw [e_z346, e_z332, show z345 = z331 by omega]
        refine x_A k231_996 (fun _ => rfl) ?_
        refine x_A k231_997 (fun _ => rfl) ?_
        refine x_A k231_998 (fun _ => rfl) ?_
        refine x_iadd k231_999 ?_
        refine x_top (fun z347 e_z347 => ?_)
        refine x_scr k231_1000 hN ⟨by omega, by omega⟩ (fun z348 g_z348 e_z348 => ?_)
        unfold in32 at g_z348
        have q_z348 : z348 = z334 := by rw [e_z348, e_z334, show z347 = z333 by omega]
        refine x_A k231_1001 (fun _ => rfl) ?_
        refine x_A k231_1002 (fun _ => rfl) ?_
        refine x_A k231_1003 (fun _ => rfl) ?_
        refine x_iadd k231_1004 ?_
        refine x_top (fun z349 e_z349 => ?_)
        refine x_scr k231_1005 hN ⟨by omega, by omega⟩ (fun z350 g_z350 e_z350 => ?_)
        unfold in32 at g_z350
        have q_z350 : z350 = z336 := by rw [e_z350, e_z336, show z349 = z335 by omega]
        refine x_A k231_1006 (fun _ => rfl) ?_
        refine x_A k231_1007 (fun _ => rfl) ?_
        refine x_A k231_1008 (fun _ => rfl) ?_
        refine x_iadd k231_1009 ?_
        refine x_top (fun z351 e_z351 => ?_)
        refine x_scr k231_1010 hN ⟨by omega, by omega⟩ (fun z352 g_z352 e_z352 => ?_)
        unfold in32 at g_z352
        have q_z352 : z352 = z338 := by rw [e_z352, e_z338, show z351 = z337 by omega]
        refine x_A k231_1011 (fun _ => rfl) ?_
        refine x_A k231_1012 (fun _ => rfl) ?_
        refine x_A k231_1013 (fun _ => rfl) ?_
        refine x_iadd k231_1014 ?_
        refine x_top (fun z353 e_z353 => ?_)
        refine x_scr k231_1015 hN ⟨by omega, by omega⟩ (fun z354 g_z354 e_z354 => ?_)
        unfold in32 at g_z354
        have q_z354 : z354 = z340 := by rw [e_z354, e_z340, show z353 = z339 by omega]
        refine x_A k231_1016 (fun _ => rfl) ?_
        refine x_A k231_1017 (fun _ => rfl) ?_
        refine x_bipush k231_1018 (by decide +kernel) ?_
        refine x_iadd k231_1020 ?_
        refine x_top (fun z355 e_z355 => ?_)
        refine x_scr k231_1021 hN ⟨by omega, by omega⟩ (fun z356 g_z356 e_z356 => ?_)
        unfold in32 at g_z356
        have q_z356 : z356 = z342 := by rw [e_z356, e_z342, show z355 = z341 by omega]
        refine x_callV k231_1022 (y := 208) (n := 6) (w0 := 0) (w1 := 6) (as := [vi z346, vi z348, vi z350, vi z352, vi z354, vi z356]) (rest := []) (by decide +kernel) (q := 256) (nq := 62) (kq := 15) ⟨by decide, rfl⟩ rfl rfl rfl rfl (xe_mono (C_X11_together_256 s344 hG_s344 J_s344 z346 ⟨by omega, by omega⟩ z348 ⟨by omega, by omega⟩ z350 ⟨by omega, by omega⟩ z352 ⟨by omega, by omega⟩ z354 ⟨by omega, by omega⟩ z356 ⟨by omega, by omega⟩) ?_)
        rintro s358 v ⟨hG_s358, t_s358, z357, rfl, g_z357⟩
        have J_s358 : J s358 := J.fl J_s344 t_s358 (by decide)
        have T0_s358 : T0 s358 := T0.fl T0_s344 t_s358 (by decide)
        have W1_s358 : W1 s358 := W1.fl W1_s344 t_s358 (by decide)
        show xe (some (N, xs)) 231 1025 [(0, .ref 2000), (1, .ref 0), (2, .ref 256), (3, vi x3)] [vi z357] s358 295 10442 _
        refine x_A k231_1025 (fun _ => rfl) ?_
        refine x_goto k231_1026 (t := 1300) rfl ?_
        refine x_iinc k231_1300 (ls' := [(3, vi (x3 + 7)), (0, .ref 2000), (1, .ref 0), (2, .ref 256)]) rfl (by decide) rfl ?_
        refine x_goto k231_1303 (t := 18) rfl ?_
        refine x_ls (l := [(0, .ref 2000), (1, .ref 0), (2, .ref 256), (3, vi (x3 + 7))]) (show ([0, 1, 2, 3] : List Nat).Nodup from by decide) ⟨rfl, rfl, rfl, rfl, trivial⟩ ?_
        exact ih s358 (x3 + 7) hG_s358 trivial ⟨by omega, by omega⟩ J_s358 T0_s358 W1_s358  (by omega)
      · rw [c5]
        refine x_B k231_33 rfl (fun _ => rfl) (fun _ => rfl) (fun _ _ => rfl) ?_
        show xe (some (N, xs)) 231 1029 [(0, .ref 2000), (1, .ref 0), (2, .ref 256), (3, vi x3)] [] s 295 10442 _
        refine x_A k231_1029 (fun _ => rfl) ?_
        refine x_A k231_1030 (fun _ => rfl) ?_
        refine x_A k231_1031 (fun _ => rfl) ?_
        refine x_A k231_1032 (fun _ => rfl) ?_
        refine x_iadd k231_1033 ?_
        refine x_top (fun z359 e_z359 => ?_)
        refine x_scr k231_1034 hN ⟨by omega, by omega⟩ (fun z360 g_z360 e_z360 => ?_)
        unfold in32 at g_z360
        refine x_A k231_1035 (fun _ => rfl) ?_
        refine x_A k231_1036 (fun _ => rfl) ?_
        refine x_A k231_1037 (fun _ => rfl) ?_
        refine x_iadd k231_1038 ?_
        refine x_top (fun z361 e_z361 => ?_)
        refine x_scr k231_1039 hN ⟨by omega, by omega⟩ (fun z362 g_z362 e_z362 => ?_)
        unfold in32 at g_z362
        refine x_A k231_1040 (fun _ => rfl) ?_
        refine x_A k231_1041 (fun _ => rfl) ?_
        refine x_A k231_1042 (fun _ => rfl) ?_
        refine x_iadd k231_1043 ?_
        refine x_top (fun z363 e_z363 => ?_)
        refine x_scr k231_1044 hN ⟨by omega, by omega⟩ (fun z364 g_z364 e_z364 => ?_)
        unfold in32 at g_z364
        refine x_callV k231_1045 (y := 114) (n := 3) (w0 := 0) (w1 := 3) (as := [vi z360, vi z362, vi z364]) (rest := []) (by decide +kernel) (q := 0) (nq := 12) (kq := 3) ⟨by decide, rfl⟩ rfl rfl rfl rfl (xe_mono (C_X10_along_0 s hG i_J z360 ⟨by omega, by omega⟩ z362 ⟨by omega, by omega⟩ z364 ⟨by omega, by omega⟩) ?_)
        rintro s366 v ⟨hG_s366, t_s366, z365, rfl, g_z365⟩
        have J_s366 : J s366 := J.fl i_J t_s366 (by decide)
        have T0_s366 : T0 s366 := T0.fl i_T0 t_s366 (by decide)
        have W1_s366 : W1 s366 := W1.fl i_W1 t_s366 (by decide)
        show xe (some (N, xs)) 231 1048 [(0, .ref 2000), (1, .ref 0), (2, .ref 256), (3, vi x3)] [vi z365] s366 295 10442 _
        refine x_A k231_1048 (fun _ => rfl) ?_
        refine x_A k231_1049 (fun _ => rfl) ?_
        refine x_A k231_1050 (fun _ => rfl) ?_
        refine x_A k231_1051 (fun _ => rfl) ?_
        refine x_A k231_1052 (fun _ => rfl) ?_
        refine x_iadd k231_1053 ?_
        refine x_top (fun z367 e_z367 => ?_)
        refine x_scr k231_1054 hN ⟨by omega, by omega⟩ (fun z368 g_z368 e_z368 => ?_)
        unfold in32 at g_z368
        have q_z368 : z368 = z360 := by rw [e_z368, e_z360, show z367 = z359 by omega]
        refine x_A k231_1055 (fun _ => rfl) ?_
        refine x_A k231_1056 (fun _ => rfl) ?_
        refine x_A k231_1057 (fun _ => rfl) ?_
        refine x_iadd k231_1058 ?_
        refine x_top (fun z369 e_z369 => ?_)
        refine x_scr k231_1059 hN ⟨by omega, by omega⟩ (fun z370 g_z370 e_z370 => ?_)
        unfold in32 at g_z370
        have q_z370 : z370 = z362 := by rw [e_z370, e_z362, show z369 = z361 by omega]
        refine x_A k231_1060 (fun _ => rfl) ?_
        refine x_A k231_1061 (fun _ => rfl) ?_
        refine x_A k231_1062 (fun _ => rfl) ?_
        refine x_iadd k231_1063 ?_
        refine x_top (fun z371 e_z371 => ?_)
        refine x_scr k231_1064 hN ⟨by omega, by omega⟩ (fun z372 g_z372 e_z372 => ?_)
        unfold in32 at g_z372
        have q_z372 : z372 = z364 := by rw [e_z372, e_z364, show z371 = z363 by omega]
        refine x_callV k231_1065 (y := 211) (n := 3) (w0 := 0) (w1 := 3) (as := [vi z368, vi z370, vi z372]) (rest := []) (by decide +kernel) (q := 256) (nq := 62) (kq := 15) ⟨by decide, rfl⟩ rfl rfl rfl rfl (xe_mono (C_X11_along_256 s366 hG_s366 J_s366 z368 ⟨by omega, by omega⟩ z370 ⟨by omega, by omega⟩ z372 ⟨by omega, by omega⟩) ?_)
        rintro s374 v ⟨hG_s374, t_s374, z373, rfl, g_z373⟩
        have J_s374 : J s374 := J.fl J_s366 t_s374 (by decide)
        have T0_s374 : T0 s374 := T0.fl T0_s366 t_s374 (by decide)
        have W1_s374 : W1 s374 := W1.fl W1_s366 t_s374 (by decide)
        show xe (some (N, xs)) 231 1068 [(0, .ref 2000), (1, .ref 0), (2, .ref 256), (3, vi x3)] [vi z373] s374 295 10442 _
        refine x_A k231_1068 (fun _ => rfl) ?_
        refine x_goto k231_1069 (t := 1300) rfl ?_
        refine x_iinc k231_1300 (ls' := [(3, vi (x3 + 7)), (0, .ref 2000), (1, .ref 0), (2, .ref 256)]) rfl (by decide) rfl ?_
        refine x_goto k231_1303 (t := 18) rfl ?_
        refine x_ls (l := [(0, .ref 2000), (1, .ref 0), (2, .ref 256), (3, vi (x3 + 7))]) (show ([0, 1, 2, 3] : List Nat).Nodup from by decide) ⟨rfl, rfl, rfl, rfl, trivial⟩ ?_
        exact ih s374 (x3 + 7) hG_s374 trivial ⟨by omega, by omega⟩ J_s374 T0_s374 W1_s374  (by omega)
      · rw [c5]
        refine x_B k231_33 rfl (fun _ => rfl) (fun _ => rfl) (fun _ _ => rfl) ?_
        show xe (some (N, xs)) 231 1072 [(0, .ref 2000), (1, .ref 0), (2, .ref 256), (3, vi x3)] [] s 295 10442 _
        refine x_A k231_1072 (fun _ => rfl) ?_
        refine x_A k231_1073 (fun _ => rfl) ?_
        refine x_A k231_1074 (fun _ => rfl) ?_
        refine x_A k231_1075 (fun _ => rfl) ?_
        refine x_iadd k231_1076 ?_
        refine x_top (fun z375 e_z375 => ?_)
        refine x_scr k231_1077 hN ⟨by omega, by omega⟩ (fun z376 g_z376 e_z376 => ?_)
        unfold in32 at g_z376
        refine x_A k231_1078 (fun _ => rfl) ?_
        refine x_A k231_1079 (fun _ => rfl) ?_
        refine x_A k231_1080 (fun _ => rfl) ?_
        refine x_iadd k231_1081 ?_
        refine x_top (fun z377 e_z377 => ?_)
        refine x_scr k231_1082 hN ⟨by omega, by omega⟩ (fun z378 g_z378 e_z378 => ?_)
        unfold in32 at g_z378
        refine x_A k231_1083 (fun _ => rfl) ?_
        refine x_A k231_1084 (fun _ => rfl) ?_
        refine x_A k231_1085 (fun _ => rfl) ?_
        refine x_iadd k231_1086 ?_
        refine x_top (fun z379 e_z379 => ?_)
        refine x_scr k231_1087 hN ⟨by omega, by omega⟩ (fun z380 g_z380 e_z380 => ?_)
        unfold in32 at g_z380
        refine x_callV k231_1088 (y := 115) (n := 3) (w0 := 0) (w1 := 3) (as := [vi z376, vi z378, vi z380]) (rest := []) (by decide +kernel) (q := 0) (nq := 12) (kq := 3) ⟨by decide, rfl⟩ rfl rfl rfl rfl (xe_mono (C_X10_likely_0 s hG i_J z376 ⟨by omega, by omega⟩ z378 ⟨by omega, by omega⟩ z380 ⟨by omega, by omega⟩) ?_)
        rintro s382 v ⟨hG_s382, t_s382, z381, rfl, g_z381⟩
        have J_s382 : J s382 := J.fl i_J t_s382 (by decide)
        have T0_s382 : T0 s382 := T0.fl i_T0 t_s382 (by decide)
        have W1_s382 : W1 s382 := W1.fl i_W1 t_s382 (by decide)
        show xe (some (N, xs)) 231 1091 [(0, .ref 2000), (1, .ref 0), (2, .ref 256), (3, vi x3)] [vi z381] s382 295 10442 _
        refine x_A k231_1091 (fun _ => rfl) ?_
        refine x_A k231_1092 (fun _ => rfl) ?_
        refine x_A k231_1093 (fun _ => rfl) ?_
        refine x_A k231_1094 (fun _ => rfl) ?_
        refine x_A k231_1095 (fun _ => rfl) ?_
        refine x_iadd k231_1096 ?_
        refine x_top (fun z383 e_z383 => ?_)
        refine x_scr k231_1097 hN ⟨by omega, by omega⟩ (fun z384 g_z384 e_z384 => ?_)
        unfold in32 at g_z384
        have q_z384 : z384 = z376 := by rw [e_z384, e_z376, show z383 = z375 by omega]
        refine x_A k231_1098 (fun _ => rfl) ?_
        refine x_A k231_1099 (fun _ => rfl) ?_
        refine x_A k231_1100 (fun _ => rfl) ?_
        refine x_iadd k231_1101 ?_
        refine x_top (fun z385 e_z385 => ?_)
        refine x_scr k231_1102 hN ⟨by omega, by omega⟩ (fun z386 g_z386 e_z386 => ?_)
        unfold in32 at g_z386
        have q_z386 : z386 = z378 := by rw [e_z386, e_z378, show z385 = z377 by omega]
        refine x_A k231_1103 (fun _ => rfl) ?_
        refine x_A k231_1104 (fun _ => rfl) ?_
        refine x_A k231_1105 (fun _ => rfl) ?_
        refine x_iadd k231_1106 ?_
        refine x_top (fun z387 e_z387 => ?_)
        refine x_scr k231_1107 hN ⟨by omega, by omega⟩ (fun z388 g_z388 e_z388 => ?_)
        unfold in32 at g_z388
        have q_z388 : z388 = z380 := by rw [e_z388, e_z380, show z387 = z379 by omega]
        refine x_callV k231_1108 (y := 212) (n := 3) (w0 := 0) (w1 := 3) (as := [vi z384, vi z386, vi z388]) (rest := []) (by decide +kernel) (q := 256) (nq := 62) (kq := 15) ⟨by decide, rfl⟩ rfl rfl rfl rfl (xe_mono (C_X11_likely_256 s382 hG_s382 J_s382 z384 ⟨by omega, by omega⟩ z386 ⟨by omega, by omega⟩ z388 ⟨by omega, by omega⟩) ?_)
        rintro s390 v ⟨hG_s390, t_s390, z389, rfl, g_z389⟩
        have J_s390 : J s390 := J.fl J_s382 t_s390 (by decide)
        have T0_s390 : T0 s390 := T0.fl T0_s382 t_s390 (by decide)
        have W1_s390 : W1 s390 := W1.fl W1_s382 t_s390 (by decide)
        show xe (some (N, xs)) 231 1111 [(0, .ref 2000), (1, .ref 0), (2, .ref 256), (3, vi x3)] [vi z389] s390 295 10442 _
        refine x_A k231_1111 (fun _ => rfl) ?_
        refine x_goto k231_1112 (t := 1300) rfl ?_
        refine x_iinc k231_1300 (ls' := [(3, vi (x3 + 7)), (0, .ref 2000), (1, .ref 0), (2, .ref 256)]) rfl (by decide) rfl ?_
        refine x_goto k231_1303 (t := 18) rfl ?_
        refine x_ls (l := [(0, .ref 2000), (1, .ref 0), (2, .ref 256), (3, vi (x3 + 7))]) (show ([0, 1, 2, 3] : List Nat).Nodup from by decide) ⟨rfl, rfl, rfl, rfl, trivial⟩ ?_
        exact ih s390 (x3 + 7) hG_s390 trivial ⟨by omega, by omega⟩ J_s390 T0_s390 W1_s390  (by omega)
      · rw [c5]
        refine x_B k231_33 rfl (fun _ => rfl) (fun _ => rfl) (fun _ _ => rfl) ?_
        show xe (some (N, xs)) 231 1115 [(0, .ref 2000), (1, .ref 0), (2, .ref 256), (3, vi x3)] [] s 295 10442 _
        refine x_A k231_1115 (fun _ => rfl) ?_
        refine x_A k231_1116 (fun _ => rfl) ?_
        refine x_A k231_1117 (fun _ => rfl) ?_
        refine x_A k231_1118 (fun _ => rfl) ?_
        refine x_iadd k231_1119 ?_
        refine x_top (fun z391 e_z391 => ?_)
        refine x_scr k231_1120 hN ⟨by omega, by omega⟩ (fun z392 g_z392 e_z392 => ?_)
        unfold in32 at g_z392
        refine x_A k231_1121 (fun _ => rfl) ?_
        refine x_A k231_1122 (fun _ => rfl) ?_
        refine x_A k231_1123 (fun _ => rfl) ?_
        refine x_iadd k231_1124 ?_
        refine x_top (fun z393 e_z393 => ?_)
        refine x_scr k231_1125 hN ⟨by omega, by omega⟩ (fun z394 g_z394 e_z394 => ?_)
        unfold in32 at g_z394
        refine x_callV k231_1126 (y := 116) (n := 2) (w0 := 0) (w1 := 2) (as := [vi z392, vi z394]) (rest := []) (by decide +kernel) (q := 0) (nq := 12) (kq := 3) ⟨by decide, rfl⟩ rfl rfl rfl rfl (xe_mono (C_X10_lacking_0 s hG i_J z392 ⟨by omega, by omega⟩ z394 ⟨by omega, by omega⟩) ?_)
        rintro s396 v ⟨hG_s396, t_s396, z395, rfl, b_z395⟩
        have J_s396 : J s396 := J.fl i_J t_s396 (by decide)
        have T0_s396 : T0 s396 := T0.fl i_T0 t_s396 (by decide)
        have W1_s396 : W1 s396 := W1.fl i_W1 t_s396 (by decide)
        show xe (some (N, xs)) 231 1129 [(0, .ref 2000), (1, .ref 0), (2, .ref 256), (3, vi x3)] [vj z395] s396 295 10442 _
        refine x_A k231_1129 (fun _ => rfl) ?_
        refine x_A k231_1130 (fun _ => rfl) ?_
        refine x_A k231_1131 (fun _ => rfl) ?_
        refine x_A k231_1132 (fun _ => rfl) ?_
        refine x_A k231_1133 (fun _ => rfl) ?_
        refine x_iadd k231_1134 ?_
        refine x_top (fun z397 e_z397 => ?_)
        refine x_scr k231_1135 hN ⟨by omega, by omega⟩ (fun z398 g_z398 e_z398 => ?_)
        unfold in32 at g_z398
        have q_z398 : z398 = z392 := by rw [e_z398, e_z392, show z397 = z391 by omega]
        refine x_A k231_1136 (fun _ => rfl) ?_
        refine x_A k231_1137 (fun _ => rfl) ?_
        refine x_A k231_1138 (fun _ => rfl) ?_
        refine x_iadd k231_1139 ?_
        refine x_top (fun z399 e_z399 => ?_)
        refine x_scr k231_1140 hN ⟨by omega, by omega⟩ (fun z400 g_z400 e_z400 => ?_)
        unfold in32 at g_z400
        have q_z400 : z400 = z394 := by rw [e_z400, e_z394, show z399 = z393 by omega]
        refine x_callV k231_1141 (y := 214) (n := 2) (w0 := 0) (w1 := 2) (as := [vi z398, vi z400]) (rest := []) (by decide +kernel) (q := 256) (nq := 62) (kq := 15) ⟨by decide, rfl⟩ rfl rfl rfl rfl (xe_mono (C_X11_lacking_256 s396 hG_s396 J_s396 z398 ⟨by omega, by omega⟩ z400 ⟨by omega, by omega⟩) ?_)
        rintro s402 v ⟨hG_s402, t_s402, z401, rfl, b_z401⟩
        have J_s402 : J s402 := J.fl J_s396 t_s402 (by decide)
        have T0_s402 : T0 s402 := T0.fl T0_s396 t_s402 (by decide)
        have W1_s402 : W1 s402 := W1.fl W1_s396 t_s402 (by decide)
        show xe (some (N, xs)) 231 1144 [(0, .ref 2000), (1, .ref 0), (2, .ref 256), (3, vi x3)] [vj z401] s402 295 10442 _
        refine x_A k231_1144 (fun _ => rfl) ?_
        refine x_goto k231_1145 (t := 1300) rfl ?_
        refine x_iinc k231_1300 (ls' := [(3, vi (x3 + 7)), (0, .ref 2000), (1, .ref 0), (2, .ref 256)]) rfl (by decide) rfl ?_
        refine x_goto k231_1303 (t := 18) rfl ?_
        refine x_ls (l := [(0, .ref 2000), (1, .ref 0), (2, .ref 256), (3, vi (x3 + 7))]) (show ([0, 1, 2, 3] : List Nat).Nodup from by decide) ⟨rfl, rfl, rfl, rfl, trivial⟩ ?_
        exact ih s402 (x3 + 7) hG_s402 trivial ⟨by omega, by omega⟩ J_s402 T0_s402 W1_s402  (by omega)
      · rw [c5]
        refine x_B k231_33 rfl (fun _ => rfl) (fun _ => rfl) (fun _ _ => rfl) ?_
        show xe (some (N, xs)) 231 1148 [(0, .ref 2000), (1, .ref 0), (2, .ref 256), (3, vi x3)] [] s 295 10442 _
        refine x_A k231_1148 (fun _ => rfl) ?_
        refine x_callV k231_1149 (y := 117) (n := 0) (w0 := 0) (w1 := 0) (as := []) (rest := []) (by decide +kernel) (q := 0) (nq := 12) (kq := 3) ⟨by decide, rfl⟩ rfl rfl rfl rfl (xe_mono (C_X10_story_0 s hG) ?_)
        rintro s404 v ⟨hG_s404, t_s404, z403, rfl, g_z403⟩
        have J_s404 : J s404 := J.fl i_J t_s404 (by decide)
        have T0_s404 : T0 s404 := T0.fl i_T0 t_s404 (by decide)
        have W1_s404 : W1 s404 := W1.fl i_W1 t_s404 (by decide)
        show xe (some (N, xs)) 231 1152 [(0, .ref 2000), (1, .ref 0), (2, .ref 256), (3, vi x3)] [vi z403] s404 295 10442 _
        refine x_A k231_1152 (fun _ => rfl) ?_
        refine x_A k231_1153 (fun _ => rfl) ?_
        refine x_callV k231_1154 (y := 215) (n := 0) (w0 := 0) (w1 := 0) (as := []) (rest := []) (by decide +kernel) (q := 256) (nq := 62) (kq := 15) ⟨by decide, rfl⟩ rfl rfl rfl rfl (xe_mono (C_X11_story_256 s404 hG_s404) ?_)
        rintro s406 v ⟨hG_s406, t_s406, z405, rfl, g_z405⟩
        have J_s406 : J s406 := J.fl J_s404 t_s406 (by decide)
        have T0_s406 : T0 s406 := T0.fl T0_s404 t_s406 (by decide)
        have W1_s406 : W1 s406 := W1.fl W1_s404 t_s406 (by decide)
        show xe (some (N, xs)) 231 1157 [(0, .ref 2000), (1, .ref 0), (2, .ref 256), (3, vi x3)] [vi z405] s406 295 10442 _
        refine x_A k231_1157 (fun _ => rfl) ?_
        refine x_goto k231_1158 (t := 1300) rfl ?_
        refine x_iinc k231_1300 (ls' := [(3, vi (x3 + 7)), (0, .ref 2000), (1, .ref 0), (2, .ref 256)]) rfl (by decide) rfl ?_
        refine x_goto k231_1303 (t := 18) rfl ?_
        refine x_ls (l := [(0, .ref 2000), (1, .ref 0), (2, .ref 256), (3, vi (x3 + 7))]) (show ([0, 1, 2, 3] : List Nat).Nodup from by decide) ⟨rfl, rfl, rfl, rfl, trivial⟩ ?_
        exact ih s406 (x3 + 7) hG_s406 trivial ⟨by omega, by omega⟩ J_s406 T0_s406 W1_s406  (by omega)
      · rw [c5]
        refine x_B k231_33 rfl (fun _ => rfl) (fun _ => rfl) (fun _ _ => rfl) ?_
        show xe (some (N, xs)) 231 1161 [(0, .ref 2000), (1, .ref 0), (2, .ref 256), (3, vi x3)] [] s 295 10442 _
        refine x_A k231_1161 (fun _ => rfl) ?_
        refine x_A k231_1162 (fun _ => rfl) ?_
        refine x_A k231_1163 (fun _ => rfl) ?_
        refine x_A k231_1164 (fun _ => rfl) ?_
        refine x_iadd k231_1165 ?_
        refine x_top (fun z407 e_z407 => ?_)
        refine x_scr k231_1166 hN ⟨by omega, by omega⟩ (fun z408 g_z408 e_z408 => ?_)
        unfold in32 at g_z408
        refine x_A k231_1167 (fun _ => rfl) ?_
        refine x_A k231_1168 (fun _ => rfl) ?_
        refine x_A k231_1169 (fun _ => rfl) ?_
        refine x_iadd k231_1170 ?_
        refine x_top (fun z409 e_z409 => ?_)
        refine x_scr k231_1171 hN ⟨by omega, by omega⟩ (fun z410 g_z410 e_z410 => ?_)
        unfold in32 at g_z410
        refine x_A k231_1172 (fun _ => rfl) ?_
        refine x_A k231_1173 (fun _ => rfl) ?_
        refine x_A k231_1174 (fun _ => rfl) ?_
        refine x_iadd k231_1175 ?_
        refine x_top (fun z411 e_z411 => ?_)
        refine x_scr k231_1176 hN ⟨by omega, by omega⟩ (fun z412 g_z412 e_z412 => ?_)
        unfold in32 at g_z412
        refine x_callV k231_1177 (y := 118) (n := 3) (w0 := 0) (w1 := 3) (as := [vi z408, vi z410, vi z412]) (rest := []) (by decide +kernel) (q := 0) (nq := 12) (kq := 3) ⟨by decide, rfl⟩ rfl rfl rfl rfl (xe_mono (C_X10_moment_0 s hG z408 ⟨by omega, by omega⟩ z410 ⟨by omega, by omega⟩ z412 ⟨by omega, by omega⟩) ?_)
        rintro s414 v ⟨hG_s414, t_s414, z413, rfl, g_z413⟩
        have J_s414 : J s414 := J.fl i_J t_s414 (by decide)
        have T0_s414 : T0 s414 := T0.fl i_T0 t_s414 (by decide)
        have W1_s414 : W1 s414 := W1.fl i_W1 t_s414 (by decide)
        show xe (some (N, xs)) 231 1180 [(0, .ref 2000), (1, .ref 0), (2, .ref 256), (3, vi x3)] [vi z413] s414 295 10442 _
        refine x_A k231_1180 (fun _ => rfl) ?_
        refine x_A k231_1181 (fun _ => rfl) ?_
        refine x_A k231_1182 (fun _ => rfl) ?_
        refine x_A k231_1183 (fun _ => rfl) ?_
        refine x_A k231_1184 (fun _ => rfl) ?_
        refine x_iadd k231_1185 ?_
        refine x_top (fun z415 e_z415 => ?_)
        refine x_scr k231_1186 hN ⟨by omega, by omega⟩ (fun z416 g_z416 e_z416 => ?_)
        unfold in32 at g_z416
        have q_z416 : z416 = z408 := by rw [e_z416, e_z408, show z415 = z407 by omega]
        refine x_A k231_1187 (fun _ => rfl) ?_
        refine x_A k231_1188 (fun _ => rfl) ?_
        refine x_A k231_1189 (fun _ => rfl) ?_
        refine x_iadd k231_1190 ?_
        refine x_top (fun z417 e_z417 => ?_)
        refine x_scr k231_1191 hN ⟨by omega, by omega⟩ (fun z418 g_z418 e_z418 => ?_)
        unfold in32 at g_z418
        have q_z418 : z418 = z410 := by rw [e_z418, e_z410, show z417 = z409 by omega]
        refine x_A k231_1192 (fun _ => rfl) ?_
        refine x_A k231_1193 (fun _ => rfl) ?_
        refine x_A k231_1194 (fun _ => rfl) ?_
        refine x_iadd k231_1195 ?_
        refine x_top (fun z419 e_z419 => ?_)
        refine x_scr k231_1196 hN ⟨by omega, by omega⟩ (fun z420 g_z420 e_z420 => ?_)
        unfold in32 at g_z420
        have q_z420 : z420 = z412 := by rw [e_z420, e_z412, show z419 = z411 by omega]
        refine x_callV k231_1197 (y := 216) (n := 3) (w0 := 0) (w1 := 3) (as := [vi z416, vi z418, vi z420]) (rest := []) (by decide +kernel) (q := 256) (nq := 62) (kq := 15) ⟨by decide, rfl⟩ rfl rfl rfl rfl (xe_mono (C_X11_moment_256 s414 hG_s414 z416 ⟨by omega, by omega⟩ z418 ⟨by omega, by omega⟩ z420 ⟨by omega, by omega⟩) ?_)
        rintro s422 v ⟨hG_s422, t_s422, z421, rfl, g_z421⟩
        have J_s422 : J s422 := J.fl J_s414 t_s422 (by decide)
        have T0_s422 : T0 s422 := T0.fl T0_s414 t_s422 (by decide)
        have W1_s422 : W1 s422 := W1.fl W1_s414 t_s422 (by decide)
        show xe (some (N, xs)) 231 1200 [(0, .ref 2000), (1, .ref 0), (2, .ref 256), (3, vi x3)] [vi z421] s422 295 10442 _
        refine x_A k231_1200 (fun _ => rfl) ?_
        refine x_goto k231_1201 (t := 1300) rfl ?_
        refine x_iinc k231_1300 (ls' := [(3, vi (x3 + 7)), (0, .ref 2000), (1, .ref 0), (2, .ref 256)]) rfl (by decide) rfl ?_
        refine x_goto k231_1303 (t := 18) rfl ?_
        refine x_ls (l := [(0, .ref 2000), (1, .ref 0), (2, .ref 256), (3, vi (x3 + 7))]) (show ([0, 1, 2, 3] : List Nat).Nodup from by decide) ⟨rfl, rfl, rfl, rfl, trivial⟩ ?_
        exact ih s422 (x3 + 7) hG_s422 trivial ⟨by omega, by omega⟩ J_s422 T0_s422 W1_s422  (by omega)
      · rw [c5]
        refine x_B k231_33 rfl (fun _ => rfl) (fun _ => rfl) (fun _ _ => rfl) ?_
        show xe (some (N, xs)) 231 1204 [(0, .ref 2000), (1, .ref 0), (2, .ref 256), (3, vi x3)] [] s 295 10442 _
        refine x_A k231_1204 (fun _ => rfl) ?_
        refine x_A k231_1205 (fun _ => rfl) ?_
        refine x_A k231_1206 (fun _ => rfl) ?_
        refine x_A k231_1207 (fun _ => rfl) ?_
        refine x_iadd k231_1208 ?_
        refine x_top (fun z423 e_z423 => ?_)
        refine x_scr k231_1209 hN ⟨by omega, by omega⟩ (fun z424 g_z424 e_z424 => ?_)
        unfold in32 at g_z424
        refine x_A k231_1210 (fun _ => rfl) ?_
        refine x_A k231_1211 (fun _ => rfl) ?_
        refine x_A k231_1212 (fun _ => rfl) ?_
        refine x_iadd k231_1213 ?_
        refine x_top (fun z425 e_z425 => ?_)
        refine x_scr k231_1214 hN ⟨by omega, by omega⟩ (fun z426 g_z426 e_z426 => ?_)
        unfold in32 at g_z426
        refine x_A k231_1215 (fun _ => rfl) ?_
        refine x_A k231_1216 (fun _ => rfl) ?_
        refine x_A k231_1217 (fun _ => rfl) ?_
        refine x_iadd k231_1218 ?_
        refine x_top (fun z427 e_z427 => ?_)
        refine x_scr k231_1219 hN ⟨by omega, by omega⟩ (fun z428 g_z428 e_z428 => ?_)
        unfold in32 at g_z428
        refine x_A k231_1220 (fun _ => rfl) ?_
        refine x_A k231_1221 (fun _ => rfl) ?_
        refine x_A k231_1222 (fun _ => rfl) ?_
        refine x_iadd k231_1223 ?_
        refine x_top (fun z429 e_z429 => ?_)
        refine x_scr k231_1224 hN ⟨by omega, by omega⟩ (fun z430 g_z430 e_z430 => ?_)
        unfold in32 at g_z430
        refine x_callV k231_1225 (y := 119) (n := 4) (w0 := 0) (w1 := 4) (as := [vi z424, vi z426, vi z428, vi z430]) (rest := []) (by decide +kernel) (q := 0) (nq := 12) (kq := 3) ⟨by decide, rfl⟩ rfl rfl rfl rfl (xe_mono (C_X10_of_0 s hG i_J z424 ⟨by omega, by omega⟩ z426 ⟨by omega, by omega⟩ z428 ⟨by omega, by omega⟩ z430 ⟨by omega, by omega⟩) ?_)
        rintro s432 v ⟨hG_s432, t_s432, z431, rfl, g_z431⟩
        have J_s432 : J s432 := J.fl i_J t_s432 (by decide)
        have T0_s432 : T0 s432 := T0.fl i_T0 t_s432 (by decide)
        have W1_s432 : W1 s432 := W1.fl i_W1 t_s432 (by decide)
        show xe (some (N, xs)) 231 1228 [(0, .ref 2000), (1, .ref 0), (2, .ref 256), (3, vi x3)] [vi z431] s432 295 10442 _
        refine x_A k231_1228 (fun _ => rfl) ?_
        refine x_A k231_1229 (fun _ => rfl) ?_
        refine x_A k231_1230 (fun _ => rfl) ?_
        refine x_A k231_1231 (fun _ => rfl) ?_
        refine x_A k231_1232 (fun _ => rfl) ?_
        refine x_iadd k231_1233 ?_
        refine x_top (fun z433 e_z433 => ?_)
        refine x_scr k231_1234 hN ⟨by omega, by omega⟩ (fun z434 g_z434 e_z434 => ?_)
        unfold in32 at g_z434
        have q_z434 : z434 = z424 := by rw [e_z434, e_z424, show z433 = z423 by omega]
        refine x_A k231_1235 (fun _ => rfl) ?_
        refine x_A k231_1236 (fun _ => rfl) ?_
        refine x_A k231_1237 (fun _ => rfl) ?_
        refine x_iadd k231_1238 ?_
        refine x_top (fun z435 e_z435 => ?_)
        refine x_scr k231_1239 hN ⟨by omega, by omega⟩ (fun z436 g_z436 e_z436 => ?_)
        unfold in32 at g_z436
        have q_z436 : z436 = z426 := by rw [e_z436, e_z426, show z435 = z425 by omega]
        refine x_A k231_1240 (fun _ => rfl) ?_
        refine x_A k231_1241 (fun _ => rfl) ?_
        refine x_A k231_1242 (fun _ => rfl) ?_
        refine x_iadd k231_1243 ?_
        refine x_top (fun z437 e_z437 => ?_)
        refine x_scr k231_1244 hN ⟨by omega, by omega⟩ (fun z438 g_z438 e_z438 => ?_)
        unfold in32 at g_z438
        have q_z438 : z438 = z428 := by rw [e_z438, e_z428, show z437 = z427 by omega]
        refine x_A k231_1245 (fun _ => rfl) ?_
        refine x_A k231_1246 (fun _ => rfl) ?_
        refine x_A k231_1247 (fun _ => rfl) ?_
        refine x_iadd k231_1248 ?_
        refine x_top (fun z439 e_z439 => ?_)
        refine x_scr k231_1249 hN ⟨by omega, by omega⟩ (fun z440 g_z440 e_z440 => ?_)
        unfold in32 at g_z440
        have q_z440 : z440 = z430 := by rw [e_z440, e_z430, show z439 = z429 by omega]
        refine x_callV k231_1250 (y := 217) (n := 4) (w0 := 0) (w1 := 4) (as := [vi z434, vi z436, vi z438, vi z440]) (rest := []) (by decide +kernel) (q := 256) (nq := 62) (kq := 15) ⟨by decide, rfl⟩ rfl rfl rfl rfl (xe_mono (C_X11_of_256 s432 hG_s432 J_s432 z434 ⟨by omega, by omega⟩ z436 ⟨by omega, by omega⟩ z438 ⟨by omega, by omega⟩ z440 ⟨by omega, by omega⟩) ?_)
        rintro s442 v ⟨hG_s442, t_s442, z441, rfl, g_z441⟩
        have J_s442 : J s442 := J.fl J_s432 t_s442 (by decide)
        have T0_s442 : T0 s442 := T0.fl T0_s432 t_s442 (by decide)
        have W1_s442 : W1 s442 := W1.fl W1_s432 t_s442 (by decide)
        show xe (some (N, xs)) 231 1253 [(0, .ref 2000), (1, .ref 0), (2, .ref 256), (3, vi x3)] [vi z441] s442 295 10442 _
        refine x_A k231_1253 (fun _ => rfl) ?_
        refine x_goto k231_1254 (t := 1300) rfl ?_
        refine x_iinc k231_1300 (ls' := [(3, vi (x3 + 7)), (0, .ref 2000), (1, .ref 0), (2, .ref 256)]) rfl (by decide) rfl ?_
        refine x_goto k231_1303 (t := 18) rfl ?_
        refine x_ls (l := [(0, .ref 2000), (1, .ref 0), (2, .ref 256), (3, vi (x3 + 7))]) (show ([0, 1, 2, 3] : List Nat).Nodup from by decide) ⟨rfl, rfl, rfl, rfl, trivial⟩ ?_
        exact ih s442 (x3 + 7) hG_s442 trivial ⟨by omega, by omega⟩ J_s442 T0_s442 W1_s442  (by omega)
      · rw [c5]
        refine x_B k231_33 rfl (fun _ => rfl) (fun _ => rfl) (fun _ _ => rfl) ?_
        show xe (some (N, xs)) 231 1257 [(0, .ref 2000), (1, .ref 0), (2, .ref 256), (3, vi x3)] [] s 295 10442 _
        refine x_A k231_1257 (fun _ => rfl) ?_
        refine x_A k231_1258 (fun _ => rfl) ?_
        refine x_A k231_1259 (fun _ => rfl) ?_
        refine x_A k231_1260 (fun _ => rfl) ?_
        refine x_iadd k231_1261 ?_
        refine x_top (fun z443 e_z443 => ?_)
        refine x_scr k231_1262 hN ⟨by omega, by omega⟩ (fun z444 g_z444 e_z444 => ?_)
        unfold in32 at g_z444
        refine x_A k231_1263 (fun _ => rfl) ?_
        refine x_A k231_1264 (fun _ => rfl) ?_
        refine x_A k231_1265 (fun _ => rfl) ?_
        refine x_iadd k231_1266 ?_
        refine x_top (fun z445 e_z445 => ?_)
        refine x_scr k231_1267 hN ⟨by omega, by omega⟩ (fun z446 g_z446 e_z446 => ?_)
        unfold in32 at g_z446
        refine x_A k231_1268 (fun _ => rfl) ?_
        refine x_A k231_1269 (fun _ => rfl) ?_
        refine x_A k231_1270 (fun _ => rfl) ?_
        refine x_iadd k231_1271 ?_
        refine x_top (fun z447 e_z447 => ?_)
        refine x_scr k231_1272 hN ⟨by omega, by omega⟩ (fun z448 g_z448 e_z448 => ?_)
        unfold in32 at g_z448
        refine x_callV k231_1273 (y := 120) (n := 3) (w0 := 0) (w1 := 3) (as := [vi z444, vi z446, vi z448]) (rest := []) (by decide +kernel) (q := 0) (nq := 12) (kq := 3) ⟨by decide, rfl⟩ rfl rfl rfl rfl (xe_mono (C_X10_split_0 s hG i_J z444 ⟨by omega, by omega⟩ z446 ⟨by omega, by omega⟩ z448 ⟨by omega, by omega⟩) ?_)
        rintro s450 v ⟨hG_s450, t_s450, z449, rfl, g_z449⟩
        have J_s450 : J s450 := J.fl i_J t_s450 (by decide)
        have T0_s450 : T0 s450 := T0.fl i_T0 t_s450 (by decide)
        have W1_s450 : W1 s450 := W1.fl i_W1 t_s450 (by decide)
        show xe (some (N, xs)) 231 1276 [(0, .ref 2000), (1, .ref 0), (2, .ref 256), (3, vi x3)] [vi z449] s450 295 10442 _
        refine x_A k231_1276 (fun _ => rfl) ?_
        refine x_A k231_1277 (fun _ => rfl) ?_
        refine x_A k231_1278 (fun _ => rfl) ?_
        refine x_A k231_1279 (fun _ => rfl) ?_
        refine x_A k231_1280 (fun _ => rfl) ?_
        refine x_iadd k231_1281 ?_
        refine x_top (fun z451 e_z451 => ?_)
        refine x_scr k231_1282 hN ⟨by omega, by omega⟩ (fun z452 g_z452 e_z452 => ?_)
        unfold in32 at g_z452
        have q_z452 : z452 = z444 := by rw [e_z452, e_z444, show z451 = z443 by omega]
        refine x_A k231_1283 (fun _ => rfl) ?_
        refine x_A k231_1284 (fun _ => rfl) ?_
        refine x_A k231_1285 (fun _ => rfl) ?_
        refine x_iadd k231_1286 ?_
        refine x_top (fun z453 e_z453 => ?_)
        refine x_scr k231_1287 hN ⟨by omega, by omega⟩ (fun z454 g_z454 e_z454 => ?_)
        unfold in32 at g_z454
        have q_z454 : z454 = z446 := by rw [e_z454, e_z446, show z453 = z445 by omega]
        refine x_A k231_1288 (fun _ => rfl) ?_
        refine x_A k231_1289 (fun _ => rfl) ?_
        refine x_A k231_1290 (fun _ => rfl) ?_
        refine x_iadd k231_1291 ?_
        refine x_top (fun z455 e_z455 => ?_)
        refine x_scr k231_1292 hN ⟨by omega, by omega⟩ (fun z456 g_z456 e_z456 => ?_)
        unfold in32 at g_z456
        have q_z456 : z456 = z448 := by rw [e_z456, e_z448, show z455 = z447 by omega]
        refine x_callV k231_1293 (y := 218) (n := 3) (w0 := 0) (w1 := 3) (as := [vi z452, vi z454, vi z456]) (rest := []) (by decide +kernel) (q := 256) (nq := 62) (kq := 15) ⟨by decide, rfl⟩ rfl rfl rfl rfl (xe_mono (C_X11_split_256 s450 hG_s450 J_s450 z452 ⟨by omega, by omega⟩ z454 ⟨by omega, by omega⟩ z456 ⟨by omega, by omega⟩) ?_)
        rintro s458 v ⟨hG_s458, t_s458, z457, rfl, g_z457⟩
        have J_s458 : J s458 := J.fl J_s450 t_s458 (by decide)
        have T0_s458 : T0 s458 := T0.fl T0_s450 t_s458 (by decide)
        have W1_s458 : W1 s458 := W1.fl W1_s450 t_s458 (by decide)
        show xe (some (N, xs)) 231 1296 [(0, .ref 2000), (1, .ref 0), (2, .ref 256), (3, vi x3)] [vi z457] s458 295 10442 _
        refine x_A k231_1296 (fun _ => rfl) ?_
        refine x_goto k231_1297 (t := 1300) rfl ?_
        refine x_iinc k231_1300 (ls' := [(3, vi (x3 + 7)), (0, .ref 2000), (1, .ref 0), (2, .ref 256)]) rfl (by decide) rfl ?_
        refine x_goto k231_1303 (t := 18) rfl ?_
        refine x_ls (l := [(0, .ref 2000), (1, .ref 0), (2, .ref 256), (3, vi (x3 + 7))]) (show ([0, 1, 2, 3] : List Nat).Nodup from by decide) ⟨rfl, rfl, rfl, rfl, trivial⟩ ?_
        exact ih s458 (x3 + 7) hG_s458 trivial ⟨by omega, by omega⟩ J_s458 T0_s458 W1_s458  (by omega)
      · refine x_tabD k231_33 ⟨by omega, by omega⟩ c5 (t0 := 1300) rfl ?_
        refine x_iinc k231_1300 (ls' := [(3, vi (x3 + 7)), (0, .ref 2000), (1, .ref 0), (2, .ref 256)]) rfl (by decide) rfl ?_
        refine x_goto k231_1303 (t := 18) rfl ?_
        refine x_ls (l := [(0, .ref 2000), (1, .ref 0), (2, .ref 256), (3, vi (x3 + 7))]) (show ([0, 1, 2, 3] : List Nat).Nodup from by decide) ⟨rfl, rfl, rfl, rfl, trivial⟩ ?_
        exact ih s (x3 + 7) hG f ⟨by omega, by omega⟩ i_J i_T0 i_W1  (by omega)
