set_option maxHeartbeats 8000000 in
theorem law_loop (N : Nat) (xs : Nat → Int32) (hN : N ≤ 3584)  : ∀ (n : Nat) (s : xS) (x3 : Int) (hG : GI s) (f : True) (b_x3 : 0 ≤ x3 ∧ x3 ≤ 3584) (i_J : J s) (i_T0 : T0 s) (i_S1 : S1 s)  (hm : (3584 - x3) < (n : Int)), xe (some (N, xs)) 231 18 [(0, .ref 2000), (1, .ref 0), (2, .ref 256), (3, vi x3)] [] s 295 10442 (fun _ v => v = some (vi 1)) := by
  intro n
  induction n with
  | zero => intro s x3 hG f b_x3 i_J i_T0 i_S1  hm; exfalso; omega
  | succ n ih =>
    intro s x3 hG f b_x3 i_J i_T0 i_S1  hm
    refine x_A k231_18 (fun _ => rfl) ?_
    refine x_A k231_19 (fun _ => rfl) ?_
    refine x_slen k231_20 ?_
    refine x_bipush k231_21 (by decide +kernel) ?_
    refine x_isub k231_23 ?_
    refine x_top (fun z1 e_z1 => ?_)
    refine x_ic_gt k231_24 (t := 1306) rfl ⟨by omega, by omega⟩ ⟨by omega, by omega⟩ (fun c2 => ?_) (fun c2 => ?_)
    · skip
      refine x_A k231_1306 (fun _ => rfl) ?_
      exact x_zret k231_1307 rfl ⟨by omega, by omega⟩ rfl
    · skip
      refine x_A k231_27 (fun _ => rfl) ?_
      refine x_A k231_28 (fun _ => rfl) ?_
      refine x_scr k231_29 hN ⟨by omega, by omega⟩ (fun z3 g_z3 e_z3 => ?_)
      unfold in32 at g_z3
      refine x_bipush k231_30 (by decide +kernel) ?_
      refine x_and_mask k231_32 ⟨by omega, by omega⟩ (fun z4 g_z4 => ?_)
      have c5 : z4 = 0 ∨ z4 = 1 ∨ z4 = 2 ∨ z4 = 3 ∨ z4 = 4 ∨ z4 = 5 ∨ z4 = 6 ∨ z4 = 7 ∨ z4 = 8 ∨ z4 = 9 ∨ z4 = 10 ∨ z4 = 11 ∨ z4 = 12 ∨ z4 = 13 ∨ z4 = 14 ∨ z4 = 15 ∨ z4 = 16 ∨ z4 = 17 ∨ z4 = 18 ∨ z4 = 19 ∨ z4 = 20 ∨ z4 = 21 ∨ z4 = 22 ∨ z4 = 23 ∨ z4 = 24 ∨ z4 = 25 ∨ z4 = 26 ∨ z4 = 27 ∨ z4 = 28 ∨ z4 = 29 ∨ ¬ (0 ≤ z4 ∧ z4 ≤ 29) := by omega
      rcases c5 with c5 | c5 | c5 | c5 | c5 | c5 | c5 | c5 | c5 | c5 | c5 | c5 | c5 | c5 | c5 | c5 | c5 | c5 | c5 | c5 | c5 | c5 | c5 | c5 | c5 | c5 | c5 | c5 | c5 | c5 | c5
      · rw [c5]
        refine x_B k231_33 rfl (fun _ => rfl) (fun _ => rfl) (fun _ _ => rfl) ?_
        show xe (some (N, xs)) 231 168 [(0, .ref 2000), (1, .ref 0), (2, .ref 256), (3, vi x3)] [] s 295 10442 _
        refine x_A k231_168 (fun _ => rfl) ?_
        refine x_callV k231_169 (y := 91) (n := 0) (w0 := 0) (w1 := 0) (as := []) (rest := []) (by decide +kernel) (q := 0) (nq := 12) (kq := 3) ⟨by decide, rfl⟩ rfl rfl rfl rfl (xe_mono (C_X10_edition_0 s hG) ?_)
        rintro s7 v ⟨hG_s7, t_s7, z6, rfl, g_z6, xp_z6⟩
        have J_s7 : J s7 := J.fl i_J t_s7 (by decide)
        have S1_s7 : S1 s7 := S1.fl i_S1 t_s7 (by decide)
        obtain ⟨z8, e_z8⟩ : ∃ z, z = s7 0 10 := ⟨_, rfl⟩
        have g_z8 : (0 : Int) ≤ s7 0 10 ∧ s7 0 10 ≤ 9 := hG_s7 0 10
        show xe (some (N, xs)) 231 172 [(0, .ref 2000), (1, .ref 0), (2, .ref 256), (3, vi x3)] [vi z6] s7 295 10442 _
        refine x_A k231_172 (fun _ => rfl) ?_
        refine x_A k231_173 (fun _ => rfl) ?_
        refine x_callV k231_174 (y := 145) (n := 0) (w0 := 0) (w1 := 0) (as := []) (rest := []) (by decide +kernel) (q := 256) (nq := 62) (kq := 15) ⟨by decide, rfl⟩ rfl rfl rfl rfl (xe_mono (D_X11_edition_256 s7 hG_s7 J_s7) ?_)
        rintro s10 v ⟨hG_s10, t_s10, z9, rfl, g_z9, xp_z9, J_s10⟩
        have q11 : s10 0 10 = z8 := (t_s10 0 10 (show 11 ∉ [4097] from by decide)).trans e_z8.symm
        have S1_s10 : S1 s10 := S1.fl S1_s7 t_s10 (by decide)
        obtain ⟨z12, e_z12⟩ : ∃ z, z = s10 256 0 := ⟨_, rfl⟩
        have g_z12 : (0 : Int) ≤ s10 256 0 ∧ s10 256 0 ≤ 9 := hG_s10 256 0
        show xe (some (N, xs)) 231 177 [(0, .ref 2000), (1, .ref 0), (2, .ref 256), (3, vi x3)] [vi z9] s10 295 10442 _
        obtain ⟨ez_s10, T0_s10⟩ := T0.ed i_T0 t_s7 t_s10 (by decide) (by decide) xp_z6 xp_z9
        refine x_A k231_177 (fun _ => rfl) ?_
        refine x_goto k231_178 (t := 1300) rfl ?_
        refine x_iinc k231_1300 (ls' := [(3, vi (x3 + 7)), (0, .ref 2000), (1, .ref 0), (2, .ref 256)]) rfl (by decide) rfl ?_
        refine x_goto k231_1303 (t := 18) rfl ?_
        refine x_ls (l := [(0, .ref 2000), (1, .ref 0), (2, .ref 256), (3, vi (x3 + 7))]) (show ([0, 1, 2, 3] : List Nat).Nodup from by decide) ⟨rfl, rfl, rfl, rfl, trivial⟩ ?_
        exact ih s10 (x3 + 7) hG_s10 trivial ⟨by omega, by omega⟩ J_s10 T0_s10 S1_s10  (by omega)
      · rw [c5]
        refine x_B k231_33 rfl (fun _ => rfl) (fun _ => rfl) (fun _ _ => rfl) ?_
        show xe (some (N, xs)) 231 181 [(0, .ref 2000), (1, .ref 0), (2, .ref 256), (3, vi x3)] [] s 295 10442 _
        refine x_A k231_181 (fun _ => rfl) ?_
        refine x_A k231_182 (fun _ => rfl) ?_
        refine x_A k231_183 (fun _ => rfl) ?_
        refine x_A k231_184 (fun _ => rfl) ?_
        refine x_iadd k231_185 ?_
        refine x_top (fun z13 e_z13 => ?_)
        refine x_scr k231_186 hN ⟨by omega, by omega⟩ (fun z14 g_z14 e_z14 => ?_)
        unfold in32 at g_z14
        obtain ⟨z15, e_z15⟩ : ∃ z, z = s 1 4 := ⟨_, rfl⟩
        have g_z15 : (1 : Int) ≤ s 1 4 ∧ s 1 4 ≤ 40 := hG 1 4
        obtain ⟨z16, e_z16⟩ : ∃ z, z = s 0 10 := ⟨_, rfl⟩
        have g_z16 : (0 : Int) ≤ s 0 10 ∧ s 0 10 ≤ 9 := hG 0 10
        refine x_callV k231_187 (y := 92) (n := 1) (w0 := 0) (w1 := 1) (as := [vi z14]) (rest := []) (by decide +kernel) (q := 0) (nq := 12) (kq := 3) ⟨by decide, rfl⟩ rfl rfl rfl rfl (xe_mono (E_X10_mark_0 s hG z14 ⟨by omega, by omega⟩ ⟨by omega, by omega⟩ ⟨by omega, by omega⟩) ?_)
        rintro s18 v ⟨hG_s18, t_s18, z17, rfl, g_z17, xp_z17⟩
        have q19 : s18 0 10 = z16 := (t_s18 0 10 (show 11 ∉ [69, 128, 384, 3276, 3277] from by decide)).trans e_z16.symm
        have J_s18 : J s18 := J.fl i_J t_s18 (by decide)
        have S1_s18 : S1 s18 := S1.fl i_S1 t_s18 (by decide)
        obtain ⟨z20, e_z20⟩ : ∃ z, z = s18 1 4 := ⟨_, rfl⟩
        have g_z20 : (1 : Int) ≤ s18 1 4 ∧ s18 1 4 ≤ 40 := hG_s18 1 4
        show xe (some (N, xs)) 231 190 [(0, .ref 2000), (1, .ref 0), (2, .ref 256), (3, vi x3)] [vi z17] s18 295 10442 _
        refine x_A k231_190 (fun _ => rfl) ?_
        refine x_A k231_191 (fun _ => rfl) ?_
        refine x_A k231_192 (fun _ => rfl) ?_
        refine x_A k231_193 (fun _ => rfl) ?_
        refine x_A k231_194 (fun _ => rfl) ?_
        refine x_iadd k231_195 ?_
        refine x_top (fun z21 e_z21 => ?_)
        refine x_scr k231_196 hN ⟨by omega, by omega⟩ (fun z22 g_z22 e_z22 => ?_)
        unfold in32 at g_z22
        have q_z22 : z22 = z14 := by rw [e_z22, e_z14, show z21 = z13 by omega]
        obtain ⟨z23, e_z23⟩ : ∃ z, z = s18 256 1 := ⟨_, rfl⟩
        have g_z23 : (1 : Int) ≤ s18 256 1 ∧ s18 256 1 ≤ 40 := hG_s18 256 1
        obtain ⟨z24, e_z24⟩ : ∃ z, z = s18 256 0 := ⟨_, rfl⟩
        have g_z24 : (0 : Int) ≤ s18 256 0 ∧ s18 256 0 ≤ 9 := hG_s18 256 0
        refine x_callV k231_197 (y := 146) (n := 1) (w0 := 0) (w1 := 1) (as := [vi z22]) (rest := []) (by decide +kernel) (q := 256) (nq := 62) (kq := 15) ⟨by decide, rfl⟩ rfl rfl rfl rfl (xe_mono (E_X11_mark_256 s18 hG_s18 z22 ⟨by omega, by omega⟩ ⟨by omega, by omega⟩ ⟨by omega, by omega⟩ J_s18) ?_)
        rintro s26 v ⟨hG_s26, t_s26, z25, rfl, g_z25, xp_z25, J_s26⟩
        have q27 : s26 0 10 = z16 := (t_s26 0 10 (show 11 ∉ [4098, 4160, 4224, 4288, 4352] from by decide)).trans q19
        have q28 : s26 1 4 = z20 := (t_s26 1 4 (show 69 ∉ [4098, 4160, 4224, 4288, 4352] from by decide)).trans e_z20.symm
        have q29 : s26 256 0 = z24 := (t_s26 256 0 (show 4097 ∉ [4098, 4160, 4224, 4288, 4352] from by decide)).trans e_z24.symm
        have S1_s26 : S1 s26 := S1.fl S1_s18 t_s26 (by decide)
        obtain ⟨z30, e_z30⟩ : ∃ z, z = s26 256 1 := ⟨_, rfl⟩
        have g_z30 : (1 : Int) ≤ s26 256 1 ∧ s26 256 1 ≤ 40 := hG_s26 256 1
        show xe (some (N, xs)) 231 200 [(0, .ref 2000), (1, .ref 0), (2, .ref 256), (3, vi x3)] [vi z25] s26 295 10442 _
        obtain ⟨ez_s26, T0_s26⟩ := T0.mark i_T0 hG t_s18 t_s26 (by decide) (by decide) xp_z17 (by rw [← q_z22]; exact xp_z25)
        refine x_A k231_200 (fun _ => rfl) ?_
        refine x_goto k231_201 (t := 1300) rfl ?_
        refine x_iinc k231_1300 (ls' := [(3, vi (x3 + 7)), (0, .ref 2000), (1, .ref 0), (2, .ref 256)]) rfl (by decide) rfl ?_
        refine x_goto k231_1303 (t := 18) rfl ?_
        refine x_ls (l := [(0, .ref 2000), (1, .ref 0), (2, .ref 256), (3, vi (x3 + 7))]) (show ([0, 1, 2, 3] : List Nat).Nodup from by decide) ⟨rfl, rfl, rfl, rfl, trivial⟩ ?_
        exact ih s26 (x3 + 7) hG_s26 trivial ⟨by omega, by omega⟩ J_s26 T0_s26 S1_s26  (by omega)
      · rw [c5]
        refine x_B k231_33 rfl (fun _ => rfl) (fun _ => rfl) (fun _ _ => rfl) ?_
        show xe (some (N, xs)) 231 204 [(0, .ref 2000), (1, .ref 0), (2, .ref 256), (3, vi x3)] [] s 295 10442 _
        refine x_A k231_204 (fun _ => rfl) ?_
        refine x_A k231_205 (fun _ => rfl) ?_
        refine x_A k231_206 (fun _ => rfl) ?_
        refine x_A k231_207 (fun _ => rfl) ?_
        refine x_iadd k231_208 ?_
        refine x_top (fun z31 e_z31 => ?_)
        refine x_scr k231_209 hN ⟨by omega, by omega⟩ (fun z32 g_z32 e_z32 => ?_)
        unfold in32 at g_z32
        refine x_A k231_210 (fun _ => rfl) ?_
        refine x_A k231_211 (fun _ => rfl) ?_
        refine x_A k231_212 (fun _ => rfl) ?_
        refine x_iadd k231_213 ?_
        refine x_top (fun z33 e_z33 => ?_)
        refine x_scr k231_214 hN ⟨by omega, by omega⟩ (fun z34 g_z34 e_z34 => ?_)
        unfold in32 at g_z34
        refine x_callV k231_215 (y := 93) (n := 2) (w0 := 0) (w1 := 2) (as := [vi z32, vi z34]) (rest := []) (by decide +kernel) (q := 0) (nq := 12) (kq := 3) ⟨by decide, rfl⟩ rfl rfl rfl rfl (xe_mono (C_X10_move_0 s hG z32 ⟨by omega, by omega⟩ z34 ⟨by omega, by omega⟩) ?_)
        rintro s36 v ⟨hG_s36, t_s36, z35, rfl, g_z35⟩
        have J_s36 : J s36 := J.fl i_J t_s36 (by decide)
        have T0_s36 : T0 s36 := T0.fl i_T0 t_s36 (by decide)
        have S1_s36 : S1 s36 := S1.fl i_S1 t_s36 (by decide)
        show xe (some (N, xs)) 231 218 [(0, .ref 2000), (1, .ref 0), (2, .ref 256), (3, vi x3)] [vi z35] s36 295 10442 _
        refine x_A k231_218 (fun _ => rfl) ?_
        refine x_A k231_219 (fun _ => rfl) ?_
        refine x_A k231_220 (fun _ => rfl) ?_
        refine x_A k231_221 (fun _ => rfl) ?_
        refine x_A k231_222 (fun _ => rfl) ?_
        refine x_iadd k231_223 ?_
        refine x_top (fun z37 e_z37 => ?_)
        refine x_scr k231_224 hN ⟨by omega, by omega⟩ (fun z38 g_z38 e_z38 => ?_)
        unfold in32 at g_z38
        have q_z38 : z38 = z32 := by rw [e_z38, e_z32, show z37 = z31 by omega]
        refine x_A k231_225 (fun _ => rfl) ?_
        refine x_A k231_226 (fun _ => rfl) ?_
        refine x_A k231_227 (fun _ => rfl) ?_
        refine x_iadd k231_228 ?_
        refine x_top (fun z39 e_z39 => ?_)
        refine x_scr k231_229 hN ⟨by omega, by omega⟩ (fun z40 g_z40 e_z40 => ?_)
        unfold in32 at g_z40
        have q_z40 : z40 = z34 := by rw [e_z40, e_z34, show z39 = z33 by omega]
        refine x_callV k231_230 (y := 147) (n := 2) (w0 := 0) (w1 := 2) (as := [vi z38, vi z40]) (rest := []) (by decide +kernel) (q := 256) (nq := 62) (kq := 15) ⟨by decide, rfl⟩ rfl rfl rfl rfl (xe_mono (D_X11_move_256 s36 hG_s36 z38 ⟨by omega, by omega⟩ z40 ⟨by omega, by omega⟩ J_s36) ?_)
        rintro s42 v ⟨hG_s42, t_s42, z41, rfl, g_z41, J_s42⟩
        have T0_s42 : T0 s42 := T0.fl T0_s36 t_s42 (by decide)
        have S1_s42 : S1 s42 := S1.fl S1_s36 t_s42 (by decide)
        show xe (some (N, xs)) 231 233 [(0, .ref 2000), (1, .ref 0), (2, .ref 256), (3, vi x3)] [vi z41] s42 295 10442 _
        refine x_A k231_233 (fun _ => rfl) ?_
        refine x_goto k231_234 (t := 1300) rfl ?_
        refine x_iinc k231_1300 (ls' := [(3, vi (x3 + 7)), (0, .ref 2000), (1, .ref 0), (2, .ref 256)]) rfl (by decide) rfl ?_
        refine x_goto k231_1303 (t := 18) rfl ?_
        refine x_ls (l := [(0, .ref 2000), (1, .ref 0), (2, .ref 256), (3, vi (x3 + 7))]) (show ([0, 1, 2, 3] : List Nat).Nodup from by decide) ⟨rfl, rfl, rfl, rfl, trivial⟩ ?_
        exact ih s42 (x3 + 7) hG_s42 trivial ⟨by omega, by omega⟩ J_s42 T0_s42 S1_s42  (by omega)
      · rw [c5]
        refine x_B k231_33 rfl (fun _ => rfl) (fun _ => rfl) (fun _ _ => rfl) ?_
        show xe (some (N, xs)) 231 237 [(0, .ref 2000), (1, .ref 0), (2, .ref 256), (3, vi x3)] [] s 295 10442 _
        refine x_A k231_237 (fun _ => rfl) ?_
        refine x_A k231_238 (fun _ => rfl) ?_
        refine x_A k231_239 (fun _ => rfl) ?_
        refine x_A k231_240 (fun _ => rfl) ?_
        refine x_iadd k231_241 ?_
        refine x_top (fun z43 e_z43 => ?_)
        refine x_scr k231_242 hN ⟨by omega, by omega⟩ (fun z44 g_z44 e_z44 => ?_)
        unfold in32 at g_z44
        refine x_A k231_243 (fun _ => rfl) ?_
        refine x_A k231_244 (fun _ => rfl) ?_
        refine x_A k231_245 (fun _ => rfl) ?_
        refine x_iadd k231_246 ?_
        refine x_top (fun z45 e_z45 => ?_)
        refine x_scr k231_247 hN ⟨by omega, by omega⟩ (fun z46 g_z46 e_z46 => ?_)
        unfold in32 at g_z46
        obtain ⟨z47, e_z47⟩ : ∃ z, z = s 1 4 := ⟨_, rfl⟩
        have g_z47 : (1 : Int) ≤ s 1 4 ∧ s 1 4 ≤ 40 := hG 1 4
        obtain ⟨z48, e_z48⟩ : ∃ z, z = s 0 10 := ⟨_, rfl⟩
        have g_z48 : (0 : Int) ≤ s 0 10 ∧ s 0 10 ≤ 9 := hG 0 10
        refine x_callV k231_248 (y := 94) (n := 2) (w0 := 0) (w1 := 2) (as := [vi z44, vi z46]) (rest := []) (by decide +kernel) (q := 0) (nq := 12) (kq := 3) ⟨by decide, rfl⟩ rfl rfl rfl rfl (xe_mono (E_X10_end_0 s hG z44 ⟨by omega, by omega⟩ z46 ⟨by omega, by omega⟩ ⟨by omega, by omega⟩ ⟨by omega, by omega⟩) ?_)
        rintro s50 v ⟨hG_s50, t_s50, z49, rfl, g_z49, xp_z49⟩
        have q51 : s50 1 4 = z47 := (t_s50 1 4 (show 69 ∉ [192, 256, 3276, 3277] from by decide)).trans e_z47.symm
        have q52 : s50 0 10 = z48 := (t_s50 0 10 (show 11 ∉ [192, 256, 3276, 3277] from by decide)).trans e_z48.symm
        have J_s50 : J s50 := J.fl i_J t_s50 (by decide)
        have S1_s50 : S1 s50 := S1.fl i_S1 t_s50 (by decide)
        show xe (some (N, xs)) 231 251 [(0, .ref 2000), (1, .ref 0), (2, .ref 256), (3, vi x3)] [vi z49] s50 295 10442 _
        refine x_A k231_251 (fun _ => rfl) ?_
        refine x_A k231_252 (fun _ => rfl) ?_
        refine x_A k231_253 (fun _ => rfl) ?_
        refine x_A k231_254 (fun _ => rfl) ?_
        refine x_A k231_255 (fun _ => rfl) ?_
        refine x_iadd k231_256 ?_
        refine x_top (fun z53 e_z53 => ?_)
        refine x_scr k231_257 hN ⟨by omega, by omega⟩ (fun z54 g_z54 e_z54 => ?_)
        unfold in32 at g_z54
        have q_z54 : z54 = z44 := by rw [e_z54, e_z44, show z53 = z43 by omega]
        refine x_A k231_258 (fun _ => rfl) ?_
        refine x_A k231_259 (fun _ => rfl) ?_
        refine x_A k231_260 (fun _ => rfl) ?_
        refine x_iadd k231_261 ?_
        refine x_top (fun z55 e_z55 => ?_)
        refine x_scr k231_262 hN ⟨by omega, by omega⟩ (fun z56 g_z56 e_z56 => ?_)
        unfold in32 at g_z56
        have q_z56 : z56 = z46 := by rw [e_z56, e_z46, show z55 = z45 by omega]
        obtain ⟨z57, e_z57⟩ : ∃ z, z = s50 256 1 := ⟨_, rfl⟩
        have g_z57 : (1 : Int) ≤ s50 256 1 ∧ s50 256 1 ≤ 40 := hG_s50 256 1
        obtain ⟨z58, e_z58⟩ : ∃ z, z = s50 256 0 := ⟨_, rfl⟩
        have g_z58 : (0 : Int) ≤ s50 256 0 ∧ s50 256 0 ≤ 9 := hG_s50 256 0
        refine x_callV k231_263 (y := 148) (n := 2) (w0 := 0) (w1 := 2) (as := [vi z54, vi z56]) (rest := []) (by decide +kernel) (q := 256) (nq := 62) (kq := 15) ⟨by decide, rfl⟩ rfl rfl rfl rfl (xe_mono (E_X11_end_256 s50 hG_s50 z54 ⟨by omega, by omega⟩ z56 ⟨by omega, by omega⟩ ⟨by omega, by omega⟩ ⟨by omega, by omega⟩ J_s50) ?_)
        rintro s60 v ⟨hG_s60, t_s60, z59, rfl, g_z59, xp_z59, J_s60⟩
        have q61 : s60 1 4 = z47 := (t_s60 1 4 (show 69 ∉ [4224, 4288] from by decide)).trans q51
        have q62 : s60 0 10 = z48 := (t_s60 0 10 (show 11 ∉ [4224, 4288] from by decide)).trans q52
        have q63 : s60 256 1 = z57 := (t_s60 256 1 (show 4098 ∉ [4224, 4288] from by decide)).trans e_z57.symm
        have q64 : s60 256 0 = z58 := (t_s60 256 0 (show 4097 ∉ [4224, 4288] from by decide)).trans e_z58.symm
        have S1_s60 : S1 s60 := S1.fl S1_s50 t_s60 (by decide)
        show xe (some (N, xs)) 231 266 [(0, .ref 2000), (1, .ref 0), (2, .ref 256), (3, vi x3)] [vi z59] s60 295 10442 _
        have T0_s60 := T0.end i_T0 hG t_s50 t_s60 (by decide) (by decide) xp_z49 (by rw [← q_z54, ← q_z56]; exact xp_z59)
        refine x_A k231_266 (fun _ => rfl) ?_
        refine x_goto k231_267 (t := 1300) rfl ?_
        refine x_iinc k231_1300 (ls' := [(3, vi (x3 + 7)), (0, .ref 2000), (1, .ref 0), (2, .ref 256)]) rfl (by decide) rfl ?_
        refine x_goto k231_1303 (t := 18) rfl ?_
        refine x_ls (l := [(0, .ref 2000), (1, .ref 0), (2, .ref 256), (3, vi (x3 + 7))]) (show ([0, 1, 2, 3] : List Nat).Nodup from by decide) ⟨rfl, rfl, rfl, rfl, trivial⟩ ?_
        exact ih s60 (x3 + 7) hG_s60 trivial ⟨by omega, by omega⟩ J_s60 T0_s60 S1_s60  (by omega)
      · rw [c5]
        refine x_B k231_33 rfl (fun _ => rfl) (fun _ => rfl) (fun _ _ => rfl) ?_
        show xe (some (N, xs)) 231 270 [(0, .ref 2000), (1, .ref 0), (2, .ref 256), (3, vi x3)] [] s 295 10442 _
        refine x_A k231_270 (fun _ => rfl) ?_
        refine x_A k231_271 (fun _ => rfl) ?_
        refine x_A k231_272 (fun _ => rfl) ?_
        refine x_A k231_273 (fun _ => rfl) ?_
        refine x_iadd k231_274 ?_
        refine x_top (fun z65 e_z65 => ?_)
        refine x_scr k231_275 hN ⟨by omega, by omega⟩ (fun z66 g_z66 e_z66 => ?_)
        unfold in32 at g_z66
        refine x_A k231_276 (fun _ => rfl) ?_
        refine x_A k231_277 (fun _ => rfl) ?_
        refine x_A k231_278 (fun _ => rfl) ?_
        refine x_iadd k231_279 ?_
        refine x_top (fun z67 e_z67 => ?_)
        refine x_scr k231_280 hN ⟨by omega, by omega⟩ (fun z68 g_z68 e_z68 => ?_)
        unfold in32 at g_z68
        refine x_A k231_281 (fun _ => rfl) ?_
        refine x_A k231_282 (fun _ => rfl) ?_
        refine x_A k231_283 (fun _ => rfl) ?_
        refine x_iadd k231_284 ?_
        refine x_top (fun z69 e_z69 => ?_)
        refine x_scr k231_285 hN ⟨by omega, by omega⟩ (fun z70 g_z70 e_z70 => ?_)
        unfold in32 at g_z70
        refine x_callV k231_286 (y := 95) (n := 3) (w0 := 0) (w1 := 3) (as := [vi z66, vi z68, vi z70]) (rest := []) (by decide +kernel) (q := 0) (nq := 12) (kq := 3) ⟨by decide, rfl⟩ rfl rfl rfl rfl (xe_mono (C_X10_tree_0 s hG i_J z66 ⟨by omega, by omega⟩ z68 ⟨by omega, by omega⟩ z70 ⟨by omega, by omega⟩) ?_)
        rintro s72 v ⟨hG_s72, t_s72, z71, rfl, g_z71⟩
        have J_s72 : J s72 := J.fl i_J t_s72 (by decide)
        have T0_s72 : T0 s72 := T0.fl i_T0 t_s72 (by decide)
        have S1_s72 : S1 s72 := S1.fl i_S1 t_s72 (by decide)
        show xe (some (N, xs)) 231 289 [(0, .ref 2000), (1, .ref 0), (2, .ref 256), (3, vi x3)] [vi z71] s72 295 10442 _
        refine x_A k231_289 (fun _ => rfl) ?_
        refine x_A k231_290 (fun _ => rfl) ?_
        refine x_A k231_291 (fun _ => rfl) ?_
        refine x_A k231_292 (fun _ => rfl) ?_
        refine x_A k231_293 (fun _ => rfl) ?_
        refine x_iadd k231_294 ?_
        refine x_top (fun z73 e_z73 => ?_)
        refine x_scr k231_295 hN ⟨by omega, by omega⟩ (fun z74 g_z74 e_z74 => ?_)
        unfold in32 at g_z74
        have q_z74 : z74 = z66 := by rw [e_z74, e_z66, show z73 = z65 by omega]
        refine x_A k231_296 (fun _ => rfl) ?_
        refine x_A k231_297 (fun _ => rfl) ?_
        refine x_A k231_298 (fun _ => rfl) ?_
        refine x_iadd k231_299 ?_
        refine x_top (fun z75 e_z75 => ?_)
        refine x_scr k231_300 hN ⟨by omega, by omega⟩ (fun z76 g_z76 e_z76 => ?_)
        unfold in32 at g_z76
        have q_z76 : z76 = z68 := by rw [e_z76, e_z68, show z75 = z67 by omega]
        refine x_A k231_301 (fun _ => rfl) ?_
        refine x_A k231_302 (fun _ => rfl) ?_
        refine x_A k231_303 (fun _ => rfl) ?_
        refine x_iadd k231_304 ?_
        refine x_top (fun z77 e_z77 => ?_)
        refine x_scr k231_305 hN ⟨by omega, by omega⟩ (fun z78 g_z78 e_z78 => ?_)
        unfold in32 at g_z78
        have q_z78 : z78 = z70 := by rw [e_z78, e_z70, show z77 = z69 by omega]
        refine x_callV k231_306 (y := 149) (n := 3) (w0 := 0) (w1 := 3) (as := [vi z74, vi z76, vi z78]) (rest := []) (by decide +kernel) (q := 256) (nq := 62) (kq := 15) ⟨by decide, rfl⟩ rfl rfl rfl rfl (xe_mono (C_X11_tree_256 s72 hG_s72 J_s72 z74 ⟨by omega, by omega⟩ z76 ⟨by omega, by omega⟩ z78 ⟨by omega, by omega⟩) ?_)
        rintro s80 v ⟨hG_s80, t_s80, z79, rfl, g_z79⟩
        have J_s80 : J s80 := J.fl J_s72 t_s80 (by decide)
        have T0_s80 : T0 s80 := T0.fl T0_s72 t_s80 (by decide)
        have S1_s80 : S1 s80 := S1.fl S1_s72 t_s80 (by decide)
        show xe (some (N, xs)) 231 309 [(0, .ref 2000), (1, .ref 0), (2, .ref 256), (3, vi x3)] [vi z79] s80 295 10442 _
        refine x_A k231_309 (fun _ => rfl) ?_
        refine x_goto k231_310 (t := 1300) rfl ?_
        refine x_iinc k231_1300 (ls' := [(3, vi (x3 + 7)), (0, .ref 2000), (1, .ref 0), (2, .ref 256)]) rfl (by decide) rfl ?_
        refine x_goto k231_1303 (t := 18) rfl ?_
        refine x_ls (l := [(0, .ref 2000), (1, .ref 0), (2, .ref 256), (3, vi (x3 + 7))]) (show ([0, 1, 2, 3] : List Nat).Nodup from by decide) ⟨rfl, rfl, rfl, rfl, trivial⟩ ?_
        exact ih s80 (x3 + 7) hG_s80 trivial ⟨by omega, by omega⟩ J_s80 T0_s80 S1_s80  (by omega)
      · rw [c5]
        refine x_B k231_33 rfl (fun _ => rfl) (fun _ => rfl) (fun _ _ => rfl) ?_
        show xe (some (N, xs)) 231 313 [(0, .ref 2000), (1, .ref 0), (2, .ref 256), (3, vi x3)] [] s 295 10442 _
        refine x_A k231_313 (fun _ => rfl) ?_
        refine x_A k231_314 (fun _ => rfl) ?_
        refine x_A k231_315 (fun _ => rfl) ?_
        refine x_A k231_316 (fun _ => rfl) ?_
        refine x_iadd k231_317 ?_
        refine x_top (fun z81 e_z81 => ?_)
        refine x_scr k231_318 hN ⟨by omega, by omega⟩ (fun z82 g_z82 e_z82 => ?_)
        unfold in32 at g_z82
        refine x_A k231_319 (fun _ => rfl) ?_
        refine x_A k231_320 (fun _ => rfl) ?_
        refine x_A k231_321 (fun _ => rfl) ?_
        refine x_iadd k231_322 ?_
        refine x_top (fun z83 e_z83 => ?_)
        refine x_scr k231_323 hN ⟨by omega, by omega⟩ (fun z84 g_z84 e_z84 => ?_)
        unfold in32 at g_z84
        refine x_A k231_324 (fun _ => rfl) ?_
        refine x_A k231_325 (fun _ => rfl) ?_
        refine x_A k231_326 (fun _ => rfl) ?_
        refine x_iadd k231_327 ?_
        refine x_top (fun z85 e_z85 => ?_)
        refine x_scr k231_328 hN ⟨by omega, by omega⟩ (fun z86 g_z86 e_z86 => ?_)
        unfold in32 at g_z86
        refine x_callV k231_329 (y := 96) (n := 3) (w0 := 0) (w1 := 3) (as := [vi z82, vi z84, vi z86]) (rest := []) (by decide +kernel) (q := 0) (nq := 12) (kq := 3) ⟨by decide, rfl⟩ rfl rfl rfl rfl (xe_mono (C_X10_below_0 s hG z82 ⟨by omega, by omega⟩ z84 ⟨by omega, by omega⟩ z86 ⟨by omega, by omega⟩) ?_)
        rintro s88 v ⟨-, t_s88, z87, rfl, g_z87⟩
        rw [t_s88.nil]
        show xe (some (N, xs)) 231 332 [(0, .ref 2000), (1, .ref 0), (2, .ref 256), (3, vi x3)] [vi z87] s 295 10442 _
        refine x_A k231_332 (fun _ => rfl) ?_
        refine x_A k231_333 (fun _ => rfl) ?_
        refine x_A k231_334 (fun _ => rfl) ?_
        refine x_A k231_335 (fun _ => rfl) ?_
        refine x_A k231_336 (fun _ => rfl) ?_
        refine x_iadd k231_337 ?_
        refine x_top (fun z89 e_z89 => ?_)
        refine x_scr k231_338 hN ⟨by omega, by omega⟩ (fun z90 g_z90 e_z90 => ?_)
        unfold in32 at g_z90
        have q_z90 : z90 = z82 := by rw [e_z90, e_z82, show z89 = z81 by omega]
        refine x_A k231_339 (fun _ => rfl) ?_
        refine x_A k231_340 (fun _ => rfl) ?_
        refine x_A k231_341 (fun _ => rfl) ?_
        refine x_iadd k231_342 ?_
        refine x_top (fun z91 e_z91 => ?_)
        refine x_scr k231_343 hN ⟨by omega, by omega⟩ (fun z92 g_z92 e_z92 => ?_)
        unfold in32 at g_z92
        have q_z92 : z92 = z84 := by rw [e_z92, e_z84, show z91 = z83 by omega]
        refine x_A k231_344 (fun _ => rfl) ?_
        refine x_A k231_345 (fun _ => rfl) ?_
        refine x_A k231_346 (fun _ => rfl) ?_
        refine x_iadd k231_347 ?_
        refine x_top (fun z93 e_z93 => ?_)
        refine x_scr k231_348 hN ⟨by omega, by omega⟩ (fun z94 g_z94 e_z94 => ?_)
        unfold in32 at g_z94
        have q_z94 : z94 = z86 := by rw [e_z94, e_z86, show z93 = z85 by omega]
        refine x_callV k231_349 (y := 150) (n := 3) (w0 := 0) (w1 := 3) (as := [vi z90, vi z92, vi z94]) (rest := []) (by decide +kernel) (q := 256) (nq := 62) (kq := 15) ⟨by decide, rfl⟩ rfl rfl rfl rfl (xe_mono (C_X11_below_256 s hG i_J z90 ⟨by omega, by omega⟩ z92 ⟨by omega, by omega⟩ z94 ⟨by omega, by omega⟩) ?_)
        rintro s96 v ⟨-, t_s96, z95, rfl, g_z95⟩
        rw [t_s96.nil]
        show xe (some (N, xs)) 231 352 [(0, .ref 2000), (1, .ref 0), (2, .ref 256), (3, vi x3)] [vi z95] s 295 10442 _
        refine x_A k231_352 (fun _ => rfl) ?_
        refine x_goto k231_353 (t := 1300) rfl ?_
        refine x_iinc k231_1300 (ls' := [(3, vi (x3 + 7)), (0, .ref 2000), (1, .ref 0), (2, .ref 256)]) rfl (by decide) rfl ?_
        refine x_goto k231_1303 (t := 18) rfl ?_
        refine x_ls (l := [(0, .ref 2000), (1, .ref 0), (2, .ref 256), (3, vi (x3 + 7))]) (show ([0, 1, 2, 3] : List Nat).Nodup from by decide) ⟨rfl, rfl, rfl, rfl, trivial⟩ ?_
        exact ih s (x3 + 7) hG f ⟨by omega, by omega⟩ i_J i_T0 i_S1  (by omega)
      · rw [c5]
        refine x_B k231_33 rfl (fun _ => rfl) (fun _ => rfl) (fun _ _ => rfl) ?_
        show xe (some (N, xs)) 231 356 [(0, .ref 2000), (1, .ref 0), (2, .ref 256), (3, vi x3)] [] s 295 10442 _
        refine x_A k231_356 (fun _ => rfl) ?_
        refine x_A k231_357 (fun _ => rfl) ?_
        refine x_A k231_358 (fun _ => rfl) ?_
        refine x_A k231_359 (fun _ => rfl) ?_
        refine x_iadd k231_360 ?_
        refine x_top (fun z97 e_z97 => ?_)
        refine x_scr k231_361 hN ⟨by omega, by omega⟩ (fun z98 g_z98 e_z98 => ?_)
        unfold in32 at g_z98
        refine x_A k231_362 (fun _ => rfl) ?_
        refine x_A k231_363 (fun _ => rfl) ?_
        refine x_A k231_364 (fun _ => rfl) ?_
        refine x_iadd k231_365 ?_
        refine x_top (fun z99 e_z99 => ?_)
        refine x_scr k231_366 hN ⟨by omega, by omega⟩ (fun z100 g_z100 e_z100 => ?_)
        unfold in32 at g_z100
        refine x_A k231_367 (fun _ => rfl) ?_
        refine x_A k231_368 (fun _ => rfl) ?_
        refine x_A k231_369 (fun _ => rfl) ?_
        refine x_iadd k231_370 ?_
        refine x_top (fun z101 e_z101 => ?_)
        refine x_scr k231_371 hN ⟨by omega, by omega⟩ (fun z102 g_z102 e_z102 => ?_)
        unfold in32 at g_z102
        refine x_callV k231_372 (y := 97) (n := 3) (w0 := 0) (w1 := 3) (as := [vi z98, vi z100, vi z102]) (rest := []) (by decide +kernel) (q := 0) (nq := 12) (kq := 3) ⟨by decide, rfl⟩ rfl rfl rfl rfl (xe_mono (C_X10_picture_0 s hG z98 ⟨by omega, by omega⟩ z100 ⟨by omega, by omega⟩ z102 ⟨by omega, by omega⟩) ?_)
        rintro s104 v ⟨hG_s104, t_s104, z103, rfl, g_z103⟩
        have J_s104 : J s104 := J.fl i_J t_s104 (by decide)
        have T0_s104 : T0 s104 := T0.fl i_T0 t_s104 (by decide)
        have S1_s104 : S1 s104 := S1.fl i_S1 t_s104 (by decide)
        show xe (some (N, xs)) 231 375 [(0, .ref 2000), (1, .ref 0), (2, .ref 256), (3, vi x3)] [vi z103] s104 295 10442 _
        refine x_A k231_375 (fun _ => rfl) ?_
        refine x_A k231_376 (fun _ => rfl) ?_
        refine x_A k231_377 (fun _ => rfl) ?_
        refine x_A k231_378 (fun _ => rfl) ?_
        refine x_A k231_379 (fun _ => rfl) ?_
        refine x_iadd k231_380 ?_
        refine x_top (fun z105 e_z105 => ?_)
        refine x_scr k231_381 hN ⟨by omega, by omega⟩ (fun z106 g_z106 e_z106 => ?_)
        unfold in32 at g_z106
        have q_z106 : z106 = z98 := by rw [e_z106, e_z98, show z105 = z97 by omega]
        refine x_A k231_382 (fun _ => rfl) ?_
        refine x_A k231_383 (fun _ => rfl) ?_
        refine x_A k231_384 (fun _ => rfl) ?_
        refine x_iadd k231_385 ?_
        refine x_top (fun z107 e_z107 => ?_)
        refine x_scr k231_386 hN ⟨by omega, by omega⟩ (fun z108 g_z108 e_z108 => ?_)
        unfold in32 at g_z108
        have q_z108 : z108 = z100 := by rw [e_z108, e_z100, show z107 = z99 by omega]
        refine x_A k231_387 (fun _ => rfl) ?_
        refine x_A k231_388 (fun _ => rfl) ?_
        refine x_A k231_389 (fun _ => rfl) ?_
        refine x_iadd k231_390 ?_
        refine x_top (fun z109 e_z109 => ?_)
        refine x_scr k231_391 hN ⟨by omega, by omega⟩ (fun z110 g_z110 e_z110 => ?_)
        unfold in32 at g_z110
        have q_z110 : z110 = z102 := by rw [e_z110, e_z102, show z109 = z101 by omega]
        refine x_callV k231_392 (y := 154) (n := 3) (w0 := 0) (w1 := 3) (as := [vi z106, vi z108, vi z110]) (rest := []) (by decide +kernel) (q := 256) (nq := 62) (kq := 15) ⟨by decide, rfl⟩ rfl rfl rfl rfl (xe_mono (D_X11_picture_256 s104 hG_s104 z106 ⟨by omega, by omega⟩ z108 ⟨by omega, by omega⟩ z110 ⟨by omega, by omega⟩ J_s104) ?_)
        rintro s112 v ⟨hG_s112, t_s112, z111, rfl, g_z111, J_s112⟩
        have T0_s112 : T0 s112 := T0.fl T0_s104 t_s112 (by decide)
        have S1_s112 : S1 s112 := S1.fl S1_s104 t_s112 (by decide)
        show xe (some (N, xs)) 231 395 [(0, .ref 2000), (1, .ref 0), (2, .ref 256), (3, vi x3)] [vi z111] s112 295 10442 _
        refine x_A k231_395 (fun _ => rfl) ?_
        refine x_goto k231_396 (t := 1300) rfl ?_
        refine x_iinc k231_1300 (ls' := [(3, vi (x3 + 7)), (0, .ref 2000), (1, .ref 0), (2, .ref 256)]) rfl (by decide) rfl ?_
        refine x_goto k231_1303 (t := 18) rfl ?_
        refine x_ls (l := [(0, .ref 2000), (1, .ref 0), (2, .ref 256), (3, vi (x3 + 7))]) (show ([0, 1, 2, 3] : List Nat).Nodup from by decide) ⟨rfl, rfl, rfl, rfl, trivial⟩ ?_
        exact ih s112 (x3 + 7) hG_s112 trivial ⟨by omega, by omega⟩ J_s112 T0_s112 S1_s112  (by omega)
      · rw [c5]
        refine x_B k231_33 rfl (fun _ => rfl) (fun _ => rfl) (fun _ _ => rfl) ?_
        show xe (some (N, xs)) 231 399 [(0, .ref 2000), (1, .ref 0), (2, .ref 256), (3, vi x3)] [] s 295 10442 _
        refine x_A k231_399 (fun _ => rfl) ?_
        refine x_A k231_400 (fun _ => rfl) ?_
        refine x_A k231_401 (fun _ => rfl) ?_
        refine x_A k231_402 (fun _ => rfl) ?_
        refine x_iadd k231_403 ?_
        refine x_top (fun z113 e_z113 => ?_)
        refine x_scr k231_404 hN ⟨by omega, by omega⟩ (fun z114 g_z114 e_z114 => ?_)
        unfold in32 at g_z114
        refine x_A k231_405 (fun _ => rfl) ?_
        refine x_A k231_406 (fun _ => rfl) ?_
        refine x_A k231_407 (fun _ => rfl) ?_
        refine x_iadd k231_408 ?_
        refine x_top (fun z115 e_z115 => ?_)
        refine x_scr k231_409 hN ⟨by omega, by omega⟩ (fun z116 g_z116 e_z116 => ?_)
        unfold in32 at g_z116
        refine x_A k231_410 (fun _ => rfl) ?_
        refine x_A k231_411 (fun _ => rfl) ?_
        refine x_A k231_412 (fun _ => rfl) ?_
        refine x_iadd k231_413 ?_
        refine x_top (fun z117 e_z117 => ?_)
        refine x_scr k231_414 hN ⟨by omega, by omega⟩ (fun z118 g_z118 e_z118 => ?_)
        unfold in32 at g_z118
        refine x_A k231_415 (fun _ => rfl) ?_
        refine x_A k231_416 (fun _ => rfl) ?_
        refine x_A k231_417 (fun _ => rfl) ?_
        refine x_iadd k231_418 ?_
        refine x_top (fun z119 e_z119 => ?_)
        refine x_scr k231_419 hN ⟨by omega, by omega⟩ (fun z120 g_z120 e_z120 => ?_)
        unfold in32 at g_z120
        refine x_callV k231_420 (y := 98) (n := 4) (w0 := 0) (w1 := 4) (as := [vi z114, vi z116, vi z118, vi z120]) (rest := []) (by decide +kernel) (q := 0) (nq := 12) (kq := 3) ⟨by decide, rfl⟩ rfl rfl rfl rfl (xe_mono (C_X10_give_0 s hG z114 ⟨by omega, by omega⟩ z116 ⟨by omega, by omega⟩ z118 ⟨by omega, by omega⟩ z120 ⟨by omega, by omega⟩) ?_)
        rintro s122 v ⟨hG_s122, t_s122, z121, rfl, g_z121⟩
        have J_s122 : J s122 := J.fl i_J t_s122 (by decide)
        have T0_s122 : T0 s122 := T0.fl i_T0 t_s122 (by decide)
        have S1_s122 : S1 s122 := S1.fl i_S1 t_s122 (by decide)
        show xe (some (N, xs)) 231 423 [(0, .ref 2000), (1, .ref 0), (2, .ref 256), (3, vi x3)] [vi z121] s122 295 10442 _
        refine x_A k231_423 (fun _ => rfl) ?_
        refine x_A k231_424 (fun _ => rfl) ?_
        refine x_A k231_425 (fun _ => rfl) ?_
        refine x_A k231_426 (fun _ => rfl) ?_
        refine x_A k231_427 (fun _ => rfl) ?_
        refine x_iadd k231_428 ?_
        refine x_top (fun z123 e_z123 => ?_)
        refine x_scr k231_429 hN ⟨by omega, by omega⟩ (fun z124 g_z124 e_z124 => ?_)
        unfold in32 at g_z124
        have q_z124 : z124 = z114 := by rw [e_z124, e_z114, show z123 = z113 by omega]
        refine x_A k231_430 (fun _ => rfl) ?_
        refine x_A k231_431 (fun _ => rfl) ?_
        refine x_A k231_432 (fun _ => rfl) ?_
        refine x_iadd k231_433 ?_
        refine x_top (fun z125 e_z125 => ?_)
        refine x_scr k231_434 hN ⟨by omega, by omega⟩ (fun z126 g_z126 e_z126 => ?_)
        unfold in32 at g_z126
        have q_z126 : z126 = z116 := by rw [e_z126, e_z116, show z125 = z115 by omega]
        refine x_A k231_435 (fun _ => rfl) ?_
        refine x_A k231_436 (fun _ => rfl) ?_
        refine x_A k231_437 (fun _ => rfl) ?_
        refine x_iadd k231_438 ?_
        refine x_top (fun z127 e_z127 => ?_)
        refine x_scr k231_439 hN ⟨by omega, by omega⟩ (fun z128 g_z128 e_z128 => ?_)
        unfold in32 at g_z128
        have q_z128 : z128 = z118 := by rw [e_z128, e_z118, show z127 = z117 by omega]
        refine x_A k231_440 (fun _ => rfl) ?_
        refine x_A k231_441 (fun _ => rfl) ?_
        refine x_A k231_442 (fun _ => rfl) ?_
        refine x_iadd k231_443 ?_
        refine x_top (fun z129 e_z129 => ?_)
        refine x_scr k231_444 hN ⟨by omega, by omega⟩ (fun z130 g_z130 e_z130 => ?_)
        unfold in32 at g_z130
        have q_z130 : z130 = z120 := by rw [e_z130, e_z120, show z129 = z119 by omega]
        refine x_callV k231_445 (y := 155) (n := 4) (w0 := 0) (w1 := 4) (as := [vi z124, vi z126, vi z128, vi z130]) (rest := []) (by decide +kernel) (q := 256) (nq := 62) (kq := 15) ⟨by decide, rfl⟩ rfl rfl rfl rfl (xe_mono (C_X11_give_256 s122 hG_s122 z124 ⟨by omega, by omega⟩ z126 ⟨by omega, by omega⟩ z128 ⟨by omega, by omega⟩ z130 ⟨by omega, by omega⟩) ?_)
        rintro s132 v ⟨hG_s132, t_s132, z131, rfl, g_z131⟩
        have J_s132 : J s132 := J.fl J_s122 t_s132 (by decide)
        have T0_s132 : T0 s132 := T0.fl T0_s122 t_s132 (by decide)
        have S1_s132 : S1 s132 := S1.fl S1_s122 t_s132 (by decide)
        show xe (some (N, xs)) 231 448 [(0, .ref 2000), (1, .ref 0), (2, .ref 256), (3, vi x3)] [vi z131] s132 295 10442 _
        refine x_A k231_448 (fun _ => rfl) ?_
        refine x_goto k231_449 (t := 1300) rfl ?_
        refine x_iinc k231_1300 (ls' := [(3, vi (x3 + 7)), (0, .ref 2000), (1, .ref 0), (2, .ref 256)]) rfl (by decide) rfl ?_
        refine x_goto k231_1303 (t := 18) rfl ?_
        refine x_ls (l := [(0, .ref 2000), (1, .ref 0), (2, .ref 256), (3, vi (x3 + 7))]) (show ([0, 1, 2, 3] : List Nat).Nodup from by decide) ⟨rfl, rfl, rfl, rfl, trivial⟩ ?_
        exact ih s132 (x3 + 7) hG_s132 trivial ⟨by omega, by omega⟩ J_s132 T0_s132 S1_s132  (by omega)
      · rw [c5]
        refine x_B k231_33 rfl (fun _ => rfl) (fun _ => rfl) (fun _ _ => rfl) ?_
        show xe (some (N, xs)) 231 452 [(0, .ref 2000), (1, .ref 0), (2, .ref 256), (3, vi x3)] [] s 295 10442 _
        refine x_A k231_452 (fun _ => rfl) ?_
        refine x_A k231_453 (fun _ => rfl) ?_
        refine x_A k231_454 (fun _ => rfl) ?_
        refine x_A k231_455 (fun _ => rfl) ?_
        refine x_iadd k231_456 ?_
        refine x_top (fun z133 e_z133 => ?_)
        refine x_scr k231_457 hN ⟨by omega, by omega⟩ (fun z134 g_z134 e_z134 => ?_)
        unfold in32 at g_z134
        refine x_A k231_458 (fun _ => rfl) ?_
        refine x_A k231_459 (fun _ => rfl) ?_
        refine x_A k231_460 (fun _ => rfl) ?_
        refine x_iadd k231_461 ?_
        refine x_top (fun z135 e_z135 => ?_)
        refine x_scr k231_462 hN ⟨by omega, by omega⟩ (fun z136 g_z136 e_z136 => ?_)
        unfold in32 at g_z136
        refine x_callV k231_463 (y := 99) (n := 2) (w0 := 0) (w1 := 2) (as := [vi z134, vi z136]) (rest := []) (by decide +kernel) (q := 0) (nq := 12) (kq := 3) ⟨by decide, rfl⟩ rfl rfl rfl rfl (xe_mono (C_X10_doubt_0 s hG z134 ⟨by omega, by omega⟩ z136 ⟨by omega, by omega⟩) ?_)
        rintro s138 v ⟨hG_s138, t_s138, z137, rfl, g_z137⟩
        have J_s138 : J s138 := J.fl i_J t_s138 (by decide)
        have T0_s138 : T0 s138 := T0.fl i_T0 t_s138 (by decide)
        have S1_s138 : S1 s138 := S1.fl i_S1 t_s138 (by decide)
        show xe (some (N, xs)) 231 466 [(0, .ref 2000), (1, .ref 0), (2, .ref 256), (3, vi x3)] [vi z137] s138 295 10442 _
        refine x_A k231_466 (fun _ => rfl) ?_
        refine x_A k231_467 (fun _ => rfl) ?_
        refine x_A k231_468 (fun _ => rfl) ?_
        refine x_A k231_469 (fun _ => rfl) ?_
        refine x_A k231_470 (fun _ => rfl) ?_
        refine x_iadd k231_471 ?_
        refine x_top (fun z139 e_z139 => ?_)
        refine x_scr k231_472 hN ⟨by omega, by omega⟩ (fun z140 g_z140 e_z140 => ?_)
        unfold in32 at g_z140
        have q_z140 : z140 = z134 := by rw [e_z140, e_z134, show z139 = z133 by omega]
        refine x_A k231_473 (fun _ => rfl) ?_
        refine x_A k231_474 (fun _ => rfl) ?_
        refine x_A k231_475 (fun _ => rfl) ?_
        refine x_iadd k231_476 ?_
        refine x_top (fun z141 e_z141 => ?_)
        refine x_scr k231_477 hN ⟨by omega, by omega⟩ (fun z142 g_z142 e_z142 => ?_)
        unfold in32 at g_z142
        have q_z142 : z142 = z136 := by rw [e_z142, e_z136, show z141 = z135 by omega]
        refine x_callV k231_478 (y := 157) (n := 2) (w0 := 0) (w1 := 2) (as := [vi z140, vi z142]) (rest := []) (by decide +kernel) (q := 256) (nq := 62) (kq := 15) ⟨by decide, rfl⟩ rfl rfl rfl rfl (xe_mono (C_X11_doubt_256 s138 hG_s138 z140 ⟨by omega, by omega⟩ z142 ⟨by omega, by omega⟩) ?_)
        rintro s144 v ⟨hG_s144, t_s144, z143, rfl, g_z143⟩
        have J_s144 : J s144 := J.fl J_s138 t_s144 (by decide)
        have T0_s144 : T0 s144 := T0.fl T0_s138 t_s144 (by decide)
        have S1_s144 : S1 s144 := S1.fl S1_s138 t_s144 (by decide)
        show xe (some (N, xs)) 231 481 [(0, .ref 2000), (1, .ref 0), (2, .ref 256), (3, vi x3)] [vi z143] s144 295 10442 _
        refine x_A k231_481 (fun _ => rfl) ?_
        refine x_goto k231_482 (t := 1300) rfl ?_
        refine x_iinc k231_1300 (ls' := [(3, vi (x3 + 7)), (0, .ref 2000), (1, .ref 0), (2, .ref 256)]) rfl (by decide) rfl ?_
        refine x_goto k231_1303 (t := 18) rfl ?_
        refine x_ls (l := [(0, .ref 2000), (1, .ref 0), (2, .ref 256), (3, vi (x3 + 7))]) (show ([0, 1, 2, 3] : List Nat).Nodup from by decide) ⟨rfl, rfl, rfl, rfl, trivial⟩ ?_
        exact ih s144 (x3 + 7) hG_s144 trivial ⟨by omega, by omega⟩ J_s144 T0_s144 S1_s144  (by omega)
      · rw [c5]
        refine x_B k231_33 rfl (fun _ => rfl) (fun _ => rfl) (fun _ _ => rfl) ?_
        show xe (some (N, xs)) 231 485 [(0, .ref 2000), (1, .ref 0), (2, .ref 256), (3, vi x3)] [] s 295 10442 _
        refine x_A k231_485 (fun _ => rfl) ?_
        refine x_A k231_486 (fun _ => rfl) ?_
        refine x_A k231_487 (fun _ => rfl) ?_
        refine x_A k231_488 (fun _ => rfl) ?_
        refine x_iadd k231_489 ?_
        refine x_top (fun z145 e_z145 => ?_)
        refine x_scr k231_490 hN ⟨by omega, by omega⟩ (fun z146 g_z146 e_z146 => ?_)
        unfold in32 at g_z146
        refine x_A k231_491 (fun _ => rfl) ?_
        refine x_A k231_492 (fun _ => rfl) ?_
        refine x_A k231_493 (fun _ => rfl) ?_
        refine x_iadd k231_494 ?_
        refine x_top (fun z147 e_z147 => ?_)
        refine x_scr k231_495 hN ⟨by omega, by omega⟩ (fun z148 g_z148 e_z148 => ?_)
        unfold in32 at g_z148
        refine x_callV k231_496 (y := 100) (n := 2) (w0 := 0) (w1 := 2) (as := [vi z146, vi z148]) (rest := []) (by decide +kernel) (q := 0) (nq := 12) (kq := 3) ⟨by decide, rfl⟩ rfl rfl rfl rfl (xe_mono (C_X10_told_0 s hG i_J z146 ⟨by omega, by omega⟩ z148 ⟨by omega, by omega⟩) ?_)
        rintro s150 v ⟨hG_s150, t_s150, z149, rfl, g_z149⟩
        have J_s150 : J s150 := J.fl i_J t_s150 (by decide)
        have T0_s150 : T0 s150 := T0.fl i_T0 t_s150 (by decide)
        have S1_s150 : S1 s150 := S1.fl i_S1 t_s150 (by decide)
        show xe (some (N, xs)) 231 499 [(0, .ref 2000), (1, .ref 0), (2, .ref 256), (3, vi x3)] [vi z149] s150 295 10442 _
        refine x_A k231_499 (fun _ => rfl) ?_
        refine x_A k231_500 (fun _ => rfl) ?_
        refine x_A k231_501 (fun _ => rfl) ?_
        refine x_A k231_502 (fun _ => rfl) ?_
        refine x_A k231_503 (fun _ => rfl) ?_
        refine x_iadd k231_504 ?_
        refine x_top (fun z151 e_z151 => ?_)
        refine x_scr k231_505 hN ⟨by omega, by omega⟩ (fun z152 g_z152 e_z152 => ?_)
        unfold in32 at g_z152
        have q_z152 : z152 = z146 := by rw [e_z152, e_z146, show z151 = z145 by omega]
        refine x_A k231_506 (fun _ => rfl) ?_
        refine x_A k231_507 (fun _ => rfl) ?_
        refine x_A k231_508 (fun _ => rfl) ?_
        refine x_iadd k231_509 ?_
        refine x_top (fun z153 e_z153 => ?_)
        refine x_scr k231_510 hN ⟨by omega, by omega⟩ (fun z154 g_z154 e_z154 => ?_)
        unfold in32 at g_z154
        have q_z154 : z154 = z148 := by rw [e_z154, e_z148, show z153 = z147 by omega]
        refine x_callV k231_511 (y := 158) (n := 2) (w0 := 0) (w1 := 2) (as := [vi z152, vi z154]) (rest := []) (by decide +kernel) (q := 256) (nq := 62) (kq := 15) ⟨by decide, rfl⟩ rfl rfl rfl rfl (xe_mono (C_X11_told_256 s150 hG_s150 J_s150 z152 ⟨by omega, by omega⟩ z154 ⟨by omega, by omega⟩) ?_)
        rintro s156 v ⟨hG_s156, t_s156, z155, rfl, g_z155⟩
        have J_s156 : J s156 := J.fl J_s150 t_s156 (by decide)
        have T0_s156 : T0 s156 := T0.fl T0_s150 t_s156 (by decide)
        have S1_s156 : S1 s156 := S1.fl S1_s150 t_s156 (by decide)
        show xe (some (N, xs)) 231 514 [(0, .ref 2000), (1, .ref 0), (2, .ref 256), (3, vi x3)] [vi z155] s156 295 10442 _
        refine x_A k231_514 (fun _ => rfl) ?_
        refine x_goto k231_515 (t := 1300) rfl ?_
        refine x_iinc k231_1300 (ls' := [(3, vi (x3 + 7)), (0, .ref 2000), (1, .ref 0), (2, .ref 256)]) rfl (by decide) rfl ?_
        refine x_goto k231_1303 (t := 18) rfl ?_
        refine x_ls (l := [(0, .ref 2000), (1, .ref 0), (2, .ref 256), (3, vi (x3 + 7))]) (show ([0, 1, 2, 3] : List Nat).Nodup from by decide) ⟨rfl, rfl, rfl, rfl, trivial⟩ ?_
        exact ih s156 (x3 + 7) hG_s156 trivial ⟨by omega, by omega⟩ J_s156 T0_s156 S1_s156  (by omega)
      · rw [c5]
        refine x_B k231_33 rfl (fun _ => rfl) (fun _ => rfl) (fun _ _ => rfl) ?_
        show xe (some (N, xs)) 231 518 [(0, .ref 2000), (1, .ref 0), (2, .ref 256), (3, vi x3)] [] s 295 10442 _
        refine x_A k231_518 (fun _ => rfl) ?_
        refine x_A k231_519 (fun _ => rfl) ?_
        refine x_A k231_520 (fun _ => rfl) ?_
        refine x_A k231_521 (fun _ => rfl) ?_
        refine x_iadd k231_522 ?_
        refine x_top (fun z157 e_z157 => ?_)
        refine x_scr k231_523 hN ⟨by omega, by omega⟩ (fun z158 g_z158 e_z158 => ?_)
        unfold in32 at g_z158
        refine x_A k231_524 (fun _ => rfl) ?_
        refine x_A k231_525 (fun _ => rfl) ?_
        refine x_A k231_526 (fun _ => rfl) ?_
        refine x_iadd k231_527 ?_
        refine x_top (fun z159 e_z159 => ?_)
        refine x_scr k231_528 hN ⟨by omega, by omega⟩ (fun z160 g_z160 e_z160 => ?_)
        unfold in32 at g_z160
        refine x_A k231_529 (fun _ => rfl) ?_
        refine x_A k231_530 (fun _ => rfl) ?_
        refine x_A k231_531 (fun _ => rfl) ?_
        refine x_iadd k231_532 ?_
        refine x_top (fun z161 e_z161 => ?_)
        refine x_scr k231_533 hN ⟨by omega, by omega⟩ (fun z162 g_z162 e_z162 => ?_)
        unfold in32 at g_z162
        refine x_callV k231_534 (y := 101) (n := 3) (w0 := 0) (w1 := 3) (as := [vi z158, vi z160, vi z162]) (rest := []) (by decide +kernel) (q := 0) (nq := 12) (kq := 3) ⟨by decide, rfl⟩ rfl rfl rfl rfl (xe_mono (C_X10_means_0 s hG i_J z158 ⟨by omega, by omega⟩ z160 ⟨by omega, by omega⟩ z162 ⟨by omega, by omega⟩) ?_)
        rintro s164 v ⟨hG_s164, t_s164, z163, rfl, g_z163⟩
        have J_s164 : J s164 := J.fl i_J t_s164 (by decide)
        have T0_s164 : T0 s164 := T0.fl i_T0 t_s164 (by decide)
        have S1_s164 : S1 s164 := S1.fl i_S1 t_s164 (by decide)
        show xe (some (N, xs)) 231 537 [(0, .ref 2000), (1, .ref 0), (2, .ref 256), (3, vi x3)] [vi z163] s164 295 10442 _
        refine x_A k231_537 (fun _ => rfl) ?_
        refine x_A k231_538 (fun _ => rfl) ?_
        refine x_A k231_539 (fun _ => rfl) ?_
        refine x_A k231_540 (fun _ => rfl) ?_
        refine x_A k231_541 (fun _ => rfl) ?_
        refine x_iadd k231_542 ?_
        refine x_top (fun z165 e_z165 => ?_)
        refine x_scr k231_543 hN ⟨by omega, by omega⟩ (fun z166 g_z166 e_z166 => ?_)
        unfold in32 at g_z166
        have q_z166 : z166 = z158 := by rw [e_z166, e_z158, show z165 = z157 by omega]
        refine x_A k231_544 (fun _ => rfl) ?_
        refine x_A k231_545 (fun _ => rfl) ?_
        refine x_A k231_546 (fun _ => rfl) ?_
        refine x_iadd k231_547 ?_
        refine x_top (fun z167 e_z167 => ?_)
        refine x_scr k231_548 hN ⟨by omega, by omega⟩ (fun z168 g_z168 e_z168 => ?_)
        unfold in32 at g_z168
        have q_z168 : z168 = z160 := by rw [e_z168, e_z160, show z167 = z159 by omega]
        refine x_A k231_549 (fun _ => rfl) ?_
        refine x_A k231_550 (fun _ => rfl) ?_
        refine x_A k231_551 (fun _ => rfl) ?_
        refine x_iadd k231_552 ?_
        refine x_top (fun z169 e_z169 => ?_)
        refine x_scr k231_553 hN ⟨by omega, by omega⟩ (fun z170 g_z170 e_z170 => ?_)
        unfold in32 at g_z170
        have q_z170 : z170 = z162 := by rw [e_z170, e_z162, show z169 = z161 by omega]
        refine x_callV k231_554 (y := 172) (n := 3) (w0 := 0) (w1 := 3) (as := [vi z166, vi z168, vi z170]) (rest := []) (by decide +kernel) (q := 256) (nq := 62) (kq := 15) ⟨by decide, rfl⟩ rfl rfl rfl rfl (xe_mono (C_X11_means_256 s164 hG_s164 J_s164 z166 ⟨by omega, by omega⟩ z168 ⟨by omega, by omega⟩ z170 ⟨by omega, by omega⟩) ?_)
        rintro s172 v ⟨hG_s172, t_s172, z171, rfl, g_z171⟩
        have J_s172 : J s172 := J.fl J_s164 t_s172 (by decide)
        have T0_s172 : T0 s172 := T0.fl T0_s164 t_s172 (by decide)
        have S1_s172 : S1 s172 := S1.fl S1_s164 t_s172 (by decide)
        show xe (some (N, xs)) 231 557 [(0, .ref 2000), (1, .ref 0), (2, .ref 256), (3, vi x3)] [vi z171] s172 295 10442 _
        refine x_A k231_557 (fun _ => rfl) ?_
        refine x_goto k231_558 (t := 1300) rfl ?_
        refine x_iinc k231_1300 (ls' := [(3, vi (x3 + 7)), (0, .ref 2000), (1, .ref 0), (2, .ref 256)]) rfl (by decide) rfl ?_
        refine x_goto k231_1303 (t := 18) rfl ?_
        refine x_ls (l := [(0, .ref 2000), (1, .ref 0), (2, .ref 256), (3, vi (x3 + 7))]) (show ([0, 1, 2, 3] : List Nat).Nodup from by decide) ⟨rfl, rfl, rfl, rfl, trivial⟩ ?_
        exact ih s172 (x3 + 7) hG_s172 trivial ⟨by omega, by omega⟩ J_s172 T0_s172 S1_s172  (by omega)
      · rw [c5]
        refine x_B k231_33 rfl (fun _ => rfl) (fun _ => rfl) (fun _ _ => rfl) ?_
        show xe (some (N, xs)) 231 561 [(0, .ref 2000), (1, .ref 0), (2, .ref 256), (3, vi x3)] [] s 295 10442 _
        refine x_A k231_561 (fun _ => rfl) ?_
        refine x_A k231_562 (fun _ => rfl) ?_
        refine x_A k231_563 (fun _ => rfl) ?_
        refine x_A k231_564 (fun _ => rfl) ?_
        refine x_iadd k231_565 ?_
        refine x_top (fun z173 e_z173 => ?_)
        refine x_scr k231_566 hN ⟨by omega, by omega⟩ (fun z174 g_z174 e_z174 => ?_)
        unfold in32 at g_z174
        refine x_A k231_567 (fun _ => rfl) ?_
        refine x_A k231_568 (fun _ => rfl) ?_
        refine x_A k231_569 (fun _ => rfl) ?_
        refine x_iadd k231_570 ?_
        refine x_top (fun z175 e_z175 => ?_)
        refine x_scr k231_571 hN ⟨by omega, by omega⟩ (fun z176 g_z176 e_z176 => ?_)
        unfold in32 at g_z176
        refine x_A k231_572 (fun _ => rfl) ?_
        refine x_A k231_573 (fun _ => rfl) ?_
        refine x_A k231_574 (fun _ => rfl) ?_
        refine x_iadd k231_575 ?_
        refine x_top (fun z177 e_z177 => ?_)
        refine x_scr k231_576 hN ⟨by omega, by omega⟩ (fun z178 g_z178 e_z178 => ?_)
        unfold in32 at g_z178
        refine x_callV k231_577 (y := 102) (n := 3) (w0 := 0) (w1 := 3) (as := [vi z174, vi z176, vi z178]) (rest := []) (by decide +kernel) (q := 0) (nq := 12) (kq := 3) ⟨by decide, rfl⟩ rfl rfl rfl rfl (xe_mono (C_X10_led_0 s hG i_J z174 ⟨by omega, by omega⟩ z176 ⟨by omega, by omega⟩ z178 ⟨by omega, by omega⟩) ?_)
        rintro s180 v ⟨hG_s180, t_s180, z179, rfl, g_z179⟩
        have J_s180 : J s180 := J.fl i_J t_s180 (by decide)
        have T0_s180 : T0 s180 := T0.fl i_T0 t_s180 (by decide)
        have S1_s180 : S1 s180 := S1.fl i_S1 t_s180 (by decide)
        show xe (some (N, xs)) 231 580 [(0, .ref 2000), (1, .ref 0), (2, .ref 256), (3, vi x3)] [vi z179] s180 295 10442 _
        refine x_A k231_580 (fun _ => rfl) ?_
        refine x_A k231_581 (fun _ => rfl) ?_
        refine x_A k231_582 (fun _ => rfl) ?_
        refine x_A k231_583 (fun _ => rfl) ?_
        refine x_A k231_584 (fun _ => rfl) ?_
        refine x_iadd k231_585 ?_
        refine x_top (fun z181 e_z181 => ?_)
        refine x_scr k231_586 hN ⟨by omega, by omega⟩ (fun z182 g_z182 e_z182 => ?_)
        unfold in32 at g_z182
        have q_z182 : z182 = z174 := by rw [e_z182, e_z174, show z181 = z173 by omega]
        refine x_A k231_587 (fun _ => rfl) ?_
        refine x_A k231_588 (fun _ => rfl) ?_
        refine x_A k231_589 (fun _ => rfl) ?_
        refine x_iadd k231_590 ?_
        refine x_top (fun z183 e_z183 => ?_)
        refine x_scr k231_591 hN ⟨by omega, by omega⟩ (fun z184 g_z184 e_z184 => ?_)
        unfold in32 at g_z184
        have q_z184 : z184 = z176 := by rw [e_z184, e_z176, show z183 = z175 by omega]
        refine x_A k231_592 (fun _ => rfl) ?_
        refine x_A k231_593 (fun _ => rfl) ?_
        refine x_A k231_594 (fun _ => rfl) ?_
        refine x_iadd k231_595 ?_
        refine x_top (fun z185 e_z185 => ?_)
        refine x_scr k231_596 hN ⟨by omega, by omega⟩ (fun z186 g_z186 e_z186 => ?_)
        unfold in32 at g_z186
        have q_z186 : z186 = z178 := by rw [e_z186, e_z178, show z185 = z177 by omega]
        refine x_callV k231_597 (y := 173) (n := 3) (w0 := 0) (w1 := 3) (as := [vi z182, vi z184, vi z186]) (rest := []) (by decide +kernel) (q := 256) (nq := 62) (kq := 15) ⟨by decide, rfl⟩ rfl rfl rfl rfl (xe_mono (C_X11_led_256 s180 hG_s180 J_s180 z182 ⟨by omega, by omega⟩ z184 ⟨by omega, by omega⟩ z186 ⟨by omega, by omega⟩) ?_)
        rintro s188 v ⟨hG_s188, t_s188, z187, rfl, g_z187⟩
        have J_s188 : J s188 := J.fl J_s180 t_s188 (by decide)
        have T0_s188 : T0 s188 := T0.fl T0_s180 t_s188 (by decide)
        have S1_s188 : S1 s188 := S1.fl S1_s180 t_s188 (by decide)
        show xe (some (N, xs)) 231 600 [(0, .ref 2000), (1, .ref 0), (2, .ref 256), (3, vi x3)] [vi z187] s188 295 10442 _
        refine x_A k231_600 (fun _ => rfl) ?_
        refine x_goto k231_601 (t := 1300) rfl ?_
        refine x_iinc k231_1300 (ls' := [(3, vi (x3 + 7)), (0, .ref 2000), (1, .ref 0), (2, .ref 256)]) rfl (by decide) rfl ?_
        refine x_goto k231_1303 (t := 18) rfl ?_
        refine x_ls (l := [(0, .ref 2000), (1, .ref 0), (2, .ref 256), (3, vi (x3 + 7))]) (show ([0, 1, 2, 3] : List Nat).Nodup from by decide) ⟨rfl, rfl, rfl, rfl, trivial⟩ ?_
        exact ih s188 (x3 + 7) hG_s188 trivial ⟨by omega, by omega⟩ J_s188 T0_s188 S1_s188  (by omega)
      · rw [c5]
        refine x_B k231_33 rfl (fun _ => rfl) (fun _ => rfl) (fun _ _ => rfl) ?_
        show xe (some (N, xs)) 231 604 [(0, .ref 2000), (1, .ref 0), (2, .ref 256), (3, vi x3)] [] s 295 10442 _
        refine x_A k231_604 (fun _ => rfl) ?_
        refine x_A k231_605 (fun _ => rfl) ?_
        refine x_A k231_606 (fun _ => rfl) ?_
        refine x_A k231_607 (fun _ => rfl) ?_
        refine x_iadd k231_608 ?_
        refine x_top (fun z189 e_z189 => ?_)
        refine x_scr k231_609 hN ⟨by omega, by omega⟩ (fun z190 g_z190 e_z190 => ?_)
        unfold in32 at g_z190
        refine x_callV k231_610 (y := 103) (n := 1) (w0 := 0) (w1 := 1) (as := [vi z190]) (rest := []) (by decide +kernel) (q := 0) (nq := 12) (kq := 3) ⟨by decide, rfl⟩ rfl rfl rfl rfl (xe_mono (C_X10_count_0 s hG i_J z190 ⟨by omega, by omega⟩) ?_)
        rintro s192 v ⟨hG_s192, t_s192, z191, rfl, g_z191⟩
        have J_s192 : J s192 := J.fl i_J t_s192 (by decide)
        have T0_s192 : T0 s192 := T0.fl i_T0 t_s192 (by decide)
        have S1_s192 : S1 s192 := S1.fl i_S1 t_s192 (by decide)
        show xe (some (N, xs)) 231 613 [(0, .ref 2000), (1, .ref 0), (2, .ref 256), (3, vi x3)] [vi z191] s192 295 10442 _
        refine x_A k231_613 (fun _ => rfl) ?_
        refine x_A k231_614 (fun _ => rfl) ?_
        refine x_A k231_615 (fun _ => rfl) ?_
        refine x_A k231_616 (fun _ => rfl) ?_
        refine x_A k231_617 (fun _ => rfl) ?_
        refine x_iadd k231_618 ?_
        refine x_top (fun z193 e_z193 => ?_)
        refine x_scr k231_619 hN ⟨by omega, by omega⟩ (fun z194 g_z194 e_z194 => ?_)
        unfold in32 at g_z194
        have q_z194 : z194 = z190 := by rw [e_z194, e_z190, show z193 = z189 by omega]
        refine x_callV k231_620 (y := 174) (n := 1) (w0 := 0) (w1 := 1) (as := [vi z194]) (rest := []) (by decide +kernel) (q := 256) (nq := 62) (kq := 15) ⟨by decide, rfl⟩ rfl rfl rfl rfl (xe_mono (C_X11_count_256 s192 hG_s192 J_s192 z194 ⟨by omega, by omega⟩) ?_)
        rintro s196 v ⟨hG_s196, t_s196, z195, rfl, g_z195⟩
        have J_s196 : J s196 := J.fl J_s192 t_s196 (by decide)
        have T0_s196 : T0 s196 := T0.fl T0_s192 t_s196 (by decide)
        have S1_s196 : S1 s196 := S1.fl S1_s192 t_s196 (by decide)
        show xe (some (N, xs)) 231 623 [(0, .ref 2000), (1, .ref 0), (2, .ref 256), (3, vi x3)] [vi z195] s196 295 10442 _
        refine x_A k231_623 (fun _ => rfl) ?_
        refine x_goto k231_624 (t := 1300) rfl ?_
        refine x_iinc k231_1300 (ls' := [(3, vi (x3 + 7)), (0, .ref 2000), (1, .ref 0), (2, .ref 256)]) rfl (by decide) rfl ?_
        refine x_goto k231_1303 (t := 18) rfl ?_
        refine x_ls (l := [(0, .ref 2000), (1, .ref 0), (2, .ref 256), (3, vi (x3 + 7))]) (show ([0, 1, 2, 3] : List Nat).Nodup from by decide) ⟨rfl, rfl, rfl, rfl, trivial⟩ ?_
        exact ih s196 (x3 + 7) hG_s196 trivial ⟨by omega, by omega⟩ J_s196 T0_s196 S1_s196  (by omega)
      · rw [c5]
        refine x_B k231_33 rfl (fun _ => rfl) (fun _ => rfl) (fun _ _ => rfl) ?_
        show xe (some (N, xs)) 231 627 [(0, .ref 2000), (1, .ref 0), (2, .ref 256), (3, vi x3)] [] s 295 10442 _
        refine x_A k231_627 (fun _ => rfl) ?_
        refine x_A k231_628 (fun _ => rfl) ?_
        refine x_A k231_629 (fun _ => rfl) ?_
        refine x_A k231_630 (fun _ => rfl) ?_
        refine x_iadd k231_631 ?_
        refine x_top (fun z197 e_z197 => ?_)
        refine x_scr k231_632 hN ⟨by omega, by omega⟩ (fun z198 g_z198 e_z198 => ?_)
        unfold in32 at g_z198
        refine x_A k231_633 (fun _ => rfl) ?_
        refine x_A k231_634 (fun _ => rfl) ?_
        refine x_A k231_635 (fun _ => rfl) ?_
        refine x_iadd k231_636 ?_
        refine x_top (fun z199 e_z199 => ?_)
        refine x_scr k231_637 hN ⟨by omega, by omega⟩ (fun z200 g_z200 e_z200 => ?_)
        unfold in32 at g_z200
        refine x_i2l k231_638 ⟨by omega, by omega⟩ ?_
        refine x_bipush k231_639 (by decide +kernel) ?_
        refine x_lshl_any k231_641 (fun z201 b_z201 => ?_)
        refine x_A k231_642 (fun _ => rfl) ?_
        refine x_A k231_643 (fun _ => rfl) ?_
        refine x_A k231_644 (fun _ => rfl) ?_
        refine x_iadd k231_645 ?_
        refine x_top (fun z202 e_z202 => ?_)
        refine x_scr k231_646 hN ⟨by omega, by omega⟩ (fun z203 g_z203 e_z203 => ?_)
        unfold in32 at g_z203
        refine x_i2l k231_647 ⟨by omega, by omega⟩ ?_
        refine x_ldc2 k231_648 (z := 4294967295) rfl (by decide +kernel) ?_
        refine x_land_mask k231_651 ⟨by omega, by omega⟩ (fun z204 g_z204 => ?_)
        refine x_lor_any k231_652 (fun z205 b_z205 => ?_)
        refine x_callV k231_653 (y := 104) (n := 2) (w0 := 0) (w1 := 3) (as := [vi z198, vj z205]) (rest := []) (by decide +kernel) (q := 0) (nq := 12) (kq := 3) ⟨by decide, rfl⟩ rfl rfl rfl rfl (xe_mono (C_X10_feed_0 s hG z198 ⟨by omega, by omega⟩ z205 b_z205) ?_)
        rintro s207 v ⟨hG_s207, t_s207, z206, rfl, g_z206⟩
        have J_s207 : J s207 := J.fl i_J t_s207 (by decide)
        have T0_s207 : T0 s207 := T0.fl i_T0 t_s207 (by decide)
        have S1_s207 : S1 s207 := S1.fl i_S1 t_s207 (by decide)
        show xe (some (N, xs)) 231 656 [(0, .ref 2000), (1, .ref 0), (2, .ref 256), (3, vi x3)] [vi z206] s207 295 10442 _
        refine x_A k231_656 (fun _ => rfl) ?_
        refine x_A k231_657 (fun _ => rfl) ?_
        refine x_A k231_658 (fun _ => rfl) ?_
        refine x_A k231_659 (fun _ => rfl) ?_
        refine x_A k231_660 (fun _ => rfl) ?_
        refine x_iadd k231_661 ?_
        refine x_top (fun z208 e_z208 => ?_)
        refine x_scr k231_662 hN ⟨by omega, by omega⟩ (fun z209 g_z209 e_z209 => ?_)
        unfold in32 at g_z209
        have q_z209 : z209 = z198 := by rw [e_z209, e_z198, show z208 = z197 by omega]
        refine x_A k231_663 (fun _ => rfl) ?_
        refine x_A k231_664 (fun _ => rfl) ?_
        refine x_A k231_665 (fun _ => rfl) ?_
        refine x_iadd k231_666 ?_
        refine x_top (fun z210 e_z210 => ?_)
        refine x_scr k231_667 hN ⟨by omega, by omega⟩ (fun z211 g_z211 e_z211 => ?_)
        unfold in32 at g_z211
        have q_z211 : z211 = z200 := by rw [e_z211, e_z200, show z210 = z199 by omega]
        refine x_i2l k231_668 ⟨by omega, by omega⟩ ?_
        refine x_bipush k231_669 (by decide +kernel) ?_
        refine x_lshl_any k231_671 (fun z212 b_z212 => ?_)
        refine x_A k231_672 (fun _ => rfl) ?_
        refine x_A k231_673 (fun _ => rfl) ?_
        refine x_A k231_674 (fun _ => rfl) ?_
        refine x_iadd k231_675 ?_
        refine x_top (fun z213 e_z213 => ?_)
        refine x_scr k231_676 hN ⟨by omega, by omega⟩ (fun z214 g_z214 e_z214 => ?_)
        unfold in32 at g_z214
        have q_z214 : z214 = z203 := by rw [e_z214, e_z203, show z213 = z202 by omega]
        refine x_i2l k231_677 ⟨by omega, by omega⟩ ?_
        refine x_ldc2 k231_678 (z := 4294967295) rfl (by decide +kernel) ?_
        refine x_land_mask k231_681 ⟨by omega, by omega⟩ (fun z215 g_z215 => ?_)
        refine x_lor_any k231_682 (fun z216 b_z216 => ?_)
        refine x_callV k231_683 (y := 175) (n := 2) (w0 := 0) (w1 := 3) (as := [vi z209, vj z216]) (rest := []) (by decide +kernel) (q := 256) (nq := 62) (kq := 15) ⟨by decide, rfl⟩ rfl rfl rfl rfl (xe_mono (C_X11_feed_256 s207 hG_s207 z209 ⟨by omega, by omega⟩ z216 b_z216) ?_)
        rintro s218 v ⟨hG_s218, t_s218, z217, rfl, g_z217⟩
        have J_s218 : J s218 := J.fl J_s207 t_s218 (by decide)
        have T0_s218 : T0 s218 := T0.fl T0_s207 t_s218 (by decide)
        have S1_s218 : S1 s218 := S1.fl S1_s207 t_s218 (by decide)
        show xe (some (N, xs)) 231 686 [(0, .ref 2000), (1, .ref 0), (2, .ref 256), (3, vi x3)] [vi z217] s218 295 10442 _
        refine x_A k231_686 (fun _ => rfl) ?_
        refine x_goto k231_687 (t := 1300) rfl ?_
        refine x_iinc k231_1300 (ls' := [(3, vi (x3 + 7)), (0, .ref 2000), (1, .ref 0), (2, .ref 256)]) rfl (by decide) rfl ?_
        refine x_goto k231_1303 (t := 18) rfl ?_
        refine x_ls (l := [(0, .ref 2000), (1, .ref 0), (2, .ref 256), (3, vi (x3 + 7))]) (show ([0, 1, 2, 3] : List Nat).Nodup from by decide) ⟨rfl, rfl, rfl, rfl, trivial⟩ ?_
        exact ih s218 (x3 + 7) hG_s218 trivial ⟨by omega, by omega⟩ J_s218 T0_s218 S1_s218  (by omega)
      · rw [c5]
        refine x_B k231_33 rfl (fun _ => rfl) (fun _ => rfl) (fun _ _ => rfl) ?_
        show xe (some (N, xs)) 231 690 [(0, .ref 2000), (1, .ref 0), (2, .ref 256), (3, vi x3)] [] s 295 10442 _
        refine x_A k231_690 (fun _ => rfl) ?_
        refine x_A k231_691 (fun _ => rfl) ?_
        refine x_A k231_692 (fun _ => rfl) ?_
        refine x_A k231_693 (fun _ => rfl) ?_
        refine x_iadd k231_694 ?_
        refine x_top (fun z219 e_z219 => ?_)
        refine x_scr k231_695 hN ⟨by omega, by omega⟩ (fun z220 g_z220 e_z220 => ?_)
        unfold in32 at g_z220
        refine x_callV k231_696 (y := 105) (n := 1) (w0 := 0) (w1 := 1) (as := [vi z220]) (rest := []) (by decide +kernel) (q := 0) (nq := 12) (kq := 3) ⟨by decide, rfl⟩ rfl rfl rfl rfl (xe_mono (C_X10_rule_0 s hG z220 ⟨by omega, by omega⟩ i_J) ?_)
        rintro s222 v ⟨hG_s222, t_s222, z221, rfl, g_z221, J_s222⟩
        have T0_s222 : T0 s222 := T0.fl i_T0 t_s222 (by decide)
        have S1_s222 : S1 s222 := S1.fl i_S1 t_s222 (by decide)
        show xe (some (N, xs)) 231 699 [(0, .ref 2000), (1, .ref 0), (2, .ref 256), (3, vi x3)] [vi z221] s222 295 10442 _
        refine x_A k231_699 (fun _ => rfl) ?_
        refine x_A k231_700 (fun _ => rfl) ?_
        refine x_A k231_701 (fun _ => rfl) ?_
        refine x_A k231_702 (fun _ => rfl) ?_
        refine x_A k231_703 (fun _ => rfl) ?_
        refine x_iadd k231_704 ?_
        refine x_top (fun z223 e_z223 => ?_)
        refine x_scr k231_705 hN ⟨by omega, by omega⟩ (fun z224 g_z224 e_z224 => ?_)
        unfold in32 at g_z224
        have q_z224 : z224 = z220 := by rw [e_z224, e_z220, show z223 = z219 by omega]
        obtain ⟨z225, e_z225⟩ : ∃ z, z = s222 256 20 := ⟨_, rfl⟩
        have g_z225 : (0 : Int) ≤ s222 256 20 ∧ s222 256 20 ≤ 64 := hG_s222 256 20
        obtain ⟨z226, e_z226⟩ : ∃ z, z = s222 256 17 := ⟨_, rfl⟩
        have g_z226 : (0 : Int) ≤ s222 256 17 ∧ s222 256 17 ≤ 8 := hG_s222 256 17
        refine x_callV k231_706 (y := 187) (n := 1) (w0 := 0) (w1 := 1) (as := [vi z224]) (rest := []) (by decide +kernel) (q := 256) (nq := 62) (kq := 15) ⟨by decide, rfl⟩ rfl rfl rfl rfl (xe_mono (C_X11_rule_256 s222 hG_s222 z224 ⟨by omega, by omega⟩ ⟨by omega, by omega⟩ ⟨by omega, by omega⟩ J_s222) ?_)
        rintro s228 v ⟨hG_s228, t_s228, z227, rfl, g_z227, J_s228⟩
        have T0_s228 : T0 s228 := T0.fl T0_s222 t_s228 (by decide)
        have S1_s228 : S1 s228 := S1.fl S1_s222 t_s228 (by decide)
        show xe (some (N, xs)) 231 709 [(0, .ref 2000), (1, .ref 0), (2, .ref 256), (3, vi x3)] [vi z227] s228 295 10442 _
        refine x_A k231_709 (fun _ => rfl) ?_
        refine x_goto k231_710 (t := 1300) rfl ?_
        refine x_iinc k231_1300 (ls' := [(3, vi (x3 + 7)), (0, .ref 2000), (1, .ref 0), (2, .ref 256)]) rfl (by decide) rfl ?_
        refine x_goto k231_1303 (t := 18) rfl ?_
        refine x_ls (l := [(0, .ref 2000), (1, .ref 0), (2, .ref 256), (3, vi (x3 + 7))]) (show ([0, 1, 2, 3] : List Nat).Nodup from by decide) ⟨rfl, rfl, rfl, rfl, trivial⟩ ?_
        exact ih s228 (x3 + 7) hG_s228 trivial ⟨by omega, by omega⟩ J_s228 T0_s228 S1_s228  (by omega)
      · rw [c5]
        refine x_B k231_33 rfl (fun _ => rfl) (fun _ => rfl) (fun _ _ => rfl) ?_
        show xe (some (N, xs)) 231 713 [(0, .ref 2000), (1, .ref 0), (2, .ref 256), (3, vi x3)] [] s 295 10442 _
        refine x_A k231_713 (fun _ => rfl) ?_
        refine x_callV k231_714 (y := 106) (n := 0) (w0 := 0) (w1 := 0) (as := []) (rest := []) (by decide +kernel) (q := 0) (nq := 12) (kq := 3) ⟨by decide, rfl⟩ rfl rfl rfl rfl (xe_mono (C_X10_fault_0 s hG) ?_)
        rintro s230 v ⟨-, t_s230, z229, rfl, g_z229⟩
        rw [t_s230.nil]
        show xe (some (N, xs)) 231 717 [(0, .ref 2000), (1, .ref 0), (2, .ref 256), (3, vi x3)] [vi z229] s 295 10442 _
        refine x_A k231_717 (fun _ => rfl) ?_
        refine x_A k231_718 (fun _ => rfl) ?_
        refine x_callV k231_719 (y := 188) (n := 0) (w0 := 0) (w1 := 0) (as := []) (rest := []) (by decide +kernel) (q := 256) (nq := 62) (kq := 15) ⟨by decide, rfl⟩ rfl rfl rfl rfl (xe_mono (C_X11_fault_256 s hG) ?_)
        rintro s232 v ⟨-, t_s232, z231, rfl, g_z231⟩
        rw [t_s232.nil]
        show xe (some (N, xs)) 231 722 [(0, .ref 2000), (1, .ref 0), (2, .ref 256), (3, vi x3)] [vi z231] s 295 10442 _
        refine x_A k231_722 (fun _ => rfl) ?_
        refine x_goto k231_723 (t := 1300) rfl ?_
        refine x_iinc k231_1300 (ls' := [(3, vi (x3 + 7)), (0, .ref 2000), (1, .ref 0), (2, .ref 256)]) rfl (by decide) rfl ?_
        refine x_goto k231_1303 (t := 18) rfl ?_
        refine x_ls (l := [(0, .ref 2000), (1, .ref 0), (2, .ref 256), (3, vi (x3 + 7))]) (show ([0, 1, 2, 3] : List Nat).Nodup from by decide) ⟨rfl, rfl, rfl, rfl, trivial⟩ ?_
        exact ih s (x3 + 7) hG f ⟨by omega, by omega⟩ i_J i_T0 i_S1  (by omega)
      · rw [c5]
        refine x_B k231_33 rfl (fun _ => rfl) (fun _ => rfl) (fun _ _ => rfl) ?_
        show xe (some (N, xs)) 231 726 [(0, .ref 2000), (1, .ref 0), (2, .ref 256), (3, vi x3)] [] s 295 10442 _
        refine x_A k231_726 (fun _ => rfl) ?_
        refine x_A k231_727 (fun _ => rfl) ?_
        refine x_A k231_728 (fun _ => rfl) ?_
        refine x_A k231_729 (fun _ => rfl) ?_
        refine x_iadd k231_730 ?_
        refine x_top (fun z233 e_z233 => ?_)
        refine x_scr k231_731 hN ⟨by omega, by omega⟩ (fun z234 g_z234 e_z234 => ?_)
        unfold in32 at g_z234
        refine x_A k231_732 (fun _ => rfl) ?_
        refine x_A k231_733 (fun _ => rfl) ?_
        refine x_A k231_734 (fun _ => rfl) ?_
        refine x_iadd k231_735 ?_
        refine x_top (fun z235 e_z235 => ?_)
        refine x_scr k231_736 hN ⟨by omega, by omega⟩ (fun z236 g_z236 e_z236 => ?_)
        unfold in32 at g_z236
        refine x_callV k231_737 (y := 107) (n := 2) (w0 := 0) (w1 := 2) (as := [vi z234, vi z236]) (rest := []) (by decide +kernel) (q := 0) (nq := 12) (kq := 3) ⟨by decide, rfl⟩ rfl rfl rfl rfl (xe_mono (C_X10_force_0 s hG i_J z234 ⟨by omega, by omega⟩ z236 ⟨by omega, by omega⟩) ?_)
        rintro s238 v ⟨hG_s238, t_s238, z237, rfl, g_z237⟩
        have J_s238 : J s238 := J.fl i_J t_s238 (by decide)
        have T0_s238 : T0 s238 := T0.fl i_T0 t_s238 (by decide)
        have S1_s238 : S1 s238 := S1.fl i_S1 t_s238 (by decide)
        show xe (some (N, xs)) 231 740 [(0, .ref 2000), (1, .ref 0), (2, .ref 256), (3, vi x3)] [vi z237] s238 295 10442 _
        refine x_A k231_740 (fun _ => rfl) ?_
        refine x_A k231_741 (fun _ => rfl) ?_
        refine x_A k231_742 (fun _ => rfl) ?_
        refine x_A k231_743 (fun _ => rfl) ?_
        refine x_A k231_744 (fun _ => rfl) ?_
        refine x_iadd k231_745 ?_
        refine x_top (fun z239 e_z239 => ?_)
        refine x_scr k231_746 hN ⟨by omega, by omega⟩ (fun z240 g_z240 e_z240 => ?_)
        unfold in32 at g_z240
        have q_z240 : z240 = z234 := by rw [e_z240, e_z234, show z239 = z233 by omega]
        refine x_A k231_747 (fun _ => rfl) ?_
        refine x_A k231_748 (fun _ => rfl) ?_
        refine x_A k231_749 (fun _ => rfl) ?_
        refine x_iadd k231_750 ?_
        refine x_top (fun z241 e_z241 => ?_)
        refine x_scr k231_751 hN ⟨by omega, by omega⟩ (fun z242 g_z242 e_z242 => ?_)
        unfold in32 at g_z242
        have q_z242 : z242 = z236 := by rw [e_z242, e_z236, show z241 = z235 by omega]
        refine x_callV k231_752 (y := 189) (n := 2) (w0 := 0) (w1 := 2) (as := [vi z240, vi z242]) (rest := []) (by decide +kernel) (q := 256) (nq := 62) (kq := 15) ⟨by decide, rfl⟩ rfl rfl rfl rfl (xe_mono (C_X11_force_256 s238 hG_s238 J_s238 z240 ⟨by omega, by omega⟩ z242 ⟨by omega, by omega⟩) ?_)
        rintro s244 v ⟨hG_s244, t_s244, z243, rfl, g_z243⟩
        have J_s244 : J s244 := J.fl J_s238 t_s244 (by decide)
        have T0_s244 : T0 s244 := T0.fl T0_s238 t_s244 (by decide)
        have S1_s244 : S1 s244 := S1.fl S1_s238 t_s244 (by decide)
        show xe (some (N, xs)) 231 755 [(0, .ref 2000), (1, .ref 0), (2, .ref 256), (3, vi x3)] [vi z243] s244 295 10442 _
        refine x_A k231_755 (fun _ => rfl) ?_
        refine x_goto k231_756 (t := 1300) rfl ?_
        refine x_iinc k231_1300 (ls' := [(3, vi (x3 + 7)), (0, .ref 2000), (1, .ref 0), (2, .ref 256)]) rfl (by decide) rfl ?_
        refine x_goto k231_1303 (t := 18) rfl ?_
        refine x_ls (l := [(0, .ref 2000), (1, .ref 0), (2, .ref 256), (3, vi (x3 + 7))]) (show ([0, 1, 2, 3] : List Nat).Nodup from by decide) ⟨rfl, rfl, rfl, rfl, trivial⟩ ?_
        exact ih s244 (x3 + 7) hG_s244 trivial ⟨by omega, by omega⟩ J_s244 T0_s244 S1_s244  (by omega)
      · rw [c5]
        refine x_B k231_33 rfl (fun _ => rfl) (fun _ => rfl) (fun _ _ => rfl) ?_
        show xe (some (N, xs)) 231 759 [(0, .ref 2000), (1, .ref 0), (2, .ref 256), (3, vi x3)] [] s 295 10442 _
        refine x_A k231_759 (fun _ => rfl) ?_
        refine x_A k231_760 (fun _ => rfl) ?_
        refine x_A k231_761 (fun _ => rfl) ?_
        refine x_A k231_762 (fun _ => rfl) ?_
        refine x_iadd k231_763 ?_
        refine x_top (fun z245 e_z245 => ?_)
        refine x_scr k231_764 hN ⟨by omega, by omega⟩ (fun z246 g_z246 e_z246 => ?_)
        unfold in32 at g_z246
        refine x_A k231_765 (fun _ => rfl) ?_
        refine x_A k231_766 (fun _ => rfl) ?_
        refine x_A k231_767 (fun _ => rfl) ?_
        refine x_iadd k231_768 ?_
        refine x_top (fun z247 e_z247 => ?_)
        refine x_scr k231_769 hN ⟨by omega, by omega⟩ (fun z248 g_z248 e_z248 => ?_)
        unfold in32 at g_z248
        refine x_A k231_770 (fun _ => rfl) ?_
        refine x_A k231_771 (fun _ => rfl) ?_
        refine x_A k231_772 (fun _ => rfl) ?_
        refine x_iadd k231_773 ?_
        refine x_top (fun z249 e_z249 => ?_)
        refine x_scr k231_774 hN ⟨by omega, by omega⟩ (fun z250 g_z250 e_z250 => ?_)
        unfold in32 at g_z250
        refine x_callV k231_775 (y := 108) (n := 3) (w0 := 0) (w1 := 3) (as := [vi z246, vi z248, vi z250]) (rest := []) (by decide +kernel) (q := 0) (nq := 12) (kq := 3) ⟨by decide, rfl⟩ rfl rfl rfl rfl (xe_mono (C_X10_word_0 s hG z246 ⟨by omega, by omega⟩ z248 ⟨by omega, by omega⟩ z250 ⟨by omega, by omega⟩) ?_)
        rintro s252 v ⟨hG_s252, t_s252, z251, rfl, g_z251⟩
        have J_s252 : J s252 := J.fl i_J t_s252 (by decide)
        have T0_s252 : T0 s252 := T0.fl i_T0 t_s252 (by decide)
        have S1_s252 : S1 s252 := S1.fl i_S1 t_s252 (by decide)
        show xe (some (N, xs)) 231 778 [(0, .ref 2000), (1, .ref 0), (2, .ref 256), (3, vi x3)] [vi z251] s252 295 10442 _
        refine x_A k231_778 (fun _ => rfl) ?_
        refine x_A k231_779 (fun _ => rfl) ?_
        refine x_A k231_780 (fun _ => rfl) ?_
        refine x_A k231_781 (fun _ => rfl) ?_
        refine x_A k231_782 (fun _ => rfl) ?_
        refine x_iadd k231_783 ?_
        refine x_top (fun z253 e_z253 => ?_)
        refine x_scr k231_784 hN ⟨by omega, by omega⟩ (fun z254 g_z254 e_z254 => ?_)
        unfold in32 at g_z254
        have q_z254 : z254 = z246 := by rw [e_z254, e_z246, show z253 = z245 by omega]
        refine x_A k231_785 (fun _ => rfl) ?_
        refine x_A k231_786 (fun _ => rfl) ?_
        refine x_A k231_787 (fun _ => rfl) ?_
        refine x_iadd k231_788 ?_
        refine x_top (fun z255 e_z255 => ?_)
        refine x_scr k231_789 hN ⟨by omega, by omega⟩ (fun z256 g_z256 e_z256 => ?_)
        unfold in32 at g_z256
        have q_z256 : z256 = z248 := by rw [e_z256, e_z248, show z255 = z247 by omega]
        refine x_A k231_790 (fun _ => rfl) ?_
        refine x_A k231_791 (fun _ => rfl) ?_
        refine x_A k231_792 (fun _ => rfl) ?_
        refine x_iadd k231_793 ?_
        refine x_top (fun z257 e_z257 => ?_)
        refine x_scr k231_794 hN ⟨by omega, by omega⟩ (fun z258 g_z258 e_z258 => ?_)
        unfold in32 at g_z258
        have q_z258 : z258 = z250 := by rw [e_z258, e_z250, show z257 = z249 by omega]
        refine x_callV k231_795 (y := 192) (n := 3) (w0 := 0) (w1 := 3) (as := [vi z254, vi z256, vi z258]) (rest := []) (by decide +kernel) (q := 256) (nq := 62) (kq := 15) ⟨by decide, rfl⟩ rfl rfl rfl rfl (xe_mono (C_X11_word_256 s252 hG_s252 z254 ⟨by omega, by omega⟩ z256 ⟨by omega, by omega⟩ z258 ⟨by omega, by omega⟩) ?_)
        rintro s260 v ⟨hG_s260, t_s260, z259, rfl, g_z259⟩
        have J_s260 : J s260 := J.fl J_s252 t_s260 (by decide)
        have T0_s260 : T0 s260 := T0.fl T0_s252 t_s260 (by decide)
        have S1_s260 : S1 s260 := S1.fl S1_s252 t_s260 (by decide)
        show xe (some (N, xs)) 231 798 [(0, .ref 2000), (1, .ref 0), (2, .ref 256), (3, vi x3)] [vi z259] s260 295 10442 _
        refine x_A k231_798 (fun _ => rfl) ?_
        refine x_goto k231_799 (t := 1300) rfl ?_
        refine x_iinc k231_1300 (ls' := [(3, vi (x3 + 7)), (0, .ref 2000), (1, .ref 0), (2, .ref 256)]) rfl (by decide) rfl ?_
        refine x_goto k231_1303 (t := 18) rfl ?_
        refine x_ls (l := [(0, .ref 2000), (1, .ref 0), (2, .ref 256), (3, vi (x3 + 7))]) (show ([0, 1, 2, 3] : List Nat).Nodup from by decide) ⟨rfl, rfl, rfl, rfl, trivial⟩ ?_
        exact ih s260 (x3 + 7) hG_s260 trivial ⟨by omega, by omega⟩ J_s260 T0_s260 S1_s260  (by omega)
      · rw [c5]
        refine x_B k231_33 rfl (fun _ => rfl) (fun _ => rfl) (fun _ _ => rfl) ?_
        show xe (some (N, xs)) 231 802 [(0, .ref 2000), (1, .ref 0), (2, .ref 256), (3, vi x3)] [] s 295 10442 _
        refine x_A k231_802 (fun _ => rfl) ?_
        refine x_A k231_803 (fun _ => rfl) ?_
        refine x_A k231_804 (fun _ => rfl) ?_
        refine x_A k231_805 (fun _ => rfl) ?_
        refine x_iadd k231_806 ?_
        refine x_top (fun z261 e_z261 => ?_)
        refine x_scr k231_807 hN ⟨by omega, by omega⟩ (fun z262 g_z262 e_z262 => ?_)
        unfold in32 at g_z262
        refine x_A k231_808 (fun _ => rfl) ?_
        refine x_A k231_809 (fun _ => rfl) ?_
        refine x_A k231_810 (fun _ => rfl) ?_
        refine x_iadd k231_811 ?_
        refine x_top (fun z263 e_z263 => ?_)
        refine x_scr k231_812 hN ⟨by omega, by omega⟩ (fun z264 g_z264 e_z264 => ?_)
        unfold in32 at g_z264
        refine x_callV k231_813 (y := 109) (n := 2) (w0 := 0) (w1 := 2) (as := [vi z262, vi z264]) (rest := []) (by decide +kernel) (q := 0) (nq := 12) (kq := 3) ⟨by decide, rfl⟩ rfl rfl rfl rfl (xe_mono (C_X10_leads_0 s hG z262 ⟨by omega, by omega⟩ z264 ⟨by omega, by omega⟩) ?_)
        rintro s266 v ⟨-, t_s266, z265, rfl, g_z265⟩
        rw [t_s266.nil]
        show xe (some (N, xs)) 231 816 [(0, .ref 2000), (1, .ref 0), (2, .ref 256), (3, vi x3)] [vi z265] s 295 10442 _
        refine x_A k231_816 (fun _ => rfl) ?_
        refine x_A k231_817 (fun _ => rfl) ?_
        refine x_A k231_818 (fun _ => rfl) ?_
        refine x_A k231_819 (fun _ => rfl) ?_
        refine x_A k231_820 (fun _ => rfl) ?_
        refine x_iadd k231_821 ?_
        refine x_top (fun z267 e_z267 => ?_)
        refine x_scr k231_822 hN ⟨by omega, by omega⟩ (fun z268 g_z268 e_z268 => ?_)
        unfold in32 at g_z268
        have q_z268 : z268 = z262 := by rw [e_z268, e_z262, show z267 = z261 by omega]
        refine x_A k231_823 (fun _ => rfl) ?_
        refine x_A k231_824 (fun _ => rfl) ?_
        refine x_A k231_825 (fun _ => rfl) ?_
        refine x_iadd k231_826 ?_
        refine x_top (fun z269 e_z269 => ?_)
        refine x_scr k231_827 hN ⟨by omega, by omega⟩ (fun z270 g_z270 e_z270 => ?_)
        unfold in32 at g_z270
        have q_z270 : z270 = z264 := by rw [e_z270, e_z264, show z269 = z263 by omega]
        refine x_callV k231_828 (y := 193) (n := 2) (w0 := 0) (w1 := 2) (as := [vi z268, vi z270]) (rest := []) (by decide +kernel) (q := 256) (nq := 62) (kq := 15) ⟨by decide, rfl⟩ rfl rfl rfl rfl (xe_mono (C_X11_leads_256 s hG z268 ⟨by omega, by omega⟩ z270 ⟨by omega, by omega⟩) ?_)
        rintro s272 v ⟨-, t_s272, z271, rfl, g_z271⟩
        rw [t_s272.nil]
        show xe (some (N, xs)) 231 831 [(0, .ref 2000), (1, .ref 0), (2, .ref 256), (3, vi x3)] [vi z271] s 295 10442 _
        refine x_A k231_831 (fun _ => rfl) ?_
        refine x_goto k231_832 (t := 1300) rfl ?_
        refine x_iinc k231_1300 (ls' := [(3, vi (x3 + 7)), (0, .ref 2000), (1, .ref 0), (2, .ref 256)]) rfl (by decide) rfl ?_
        refine x_goto k231_1303 (t := 18) rfl ?_
        refine x_ls (l := [(0, .ref 2000), (1, .ref 0), (2, .ref 256), (3, vi (x3 + 7))]) (show ([0, 1, 2, 3] : List Nat).Nodup from by decide) ⟨rfl, rfl, rfl, rfl, trivial⟩ ?_
        exact ih s (x3 + 7) hG f ⟨by omega, by omega⟩ i_J i_T0 i_S1  (by omega)
      · rw [c5]
        refine x_B k231_33 rfl (fun _ => rfl) (fun _ => rfl) (fun _ _ => rfl) ?_
        show xe (some (N, xs)) 231 835 [(0, .ref 2000), (1, .ref 0), (2, .ref 256), (3, vi x3)] [] s 295 10442 _
        refine x_A k231_835 (fun _ => rfl) ?_
        refine x_callV k231_836 (y := 110) (n := 0) (w0 := 0) (w1 := 0) (as := []) (rest := []) (by decide +kernel) (q := 0) (nq := 12) (kq := 3) ⟨by decide, rfl⟩ rfl rfl rfl rfl (xe_mono (C_X10_ask_0 s hG) ?_)
        rintro s274 v ⟨hG_s274, t_s274, z273, rfl, g_z273⟩
        have J_s274 : J s274 := J.fl i_J t_s274 (by decide)
        have T0_s274 : T0 s274 := T0.fl i_T0 t_s274 (by decide)
        have S1_s274 : S1 s274 := S1.fl i_S1 t_s274 (by decide)
        show xe (some (N, xs)) 231 839 [(0, .ref 2000), (1, .ref 0), (2, .ref 256), (3, vi x3)] [vi z273] s274 295 10442 _
        refine x_A k231_839 (fun _ => rfl) ?_
        refine x_A k231_840 (fun _ => rfl) ?_
        obtain ⟨z275, e_z275⟩ : ∃ z, z = s274 256 47 := ⟨_, rfl⟩
        have g_z275 : (0 : Int) ≤ s274 256 47 ∧ s274 256 47 ≤ 110 := hG_s274 256 47
        obtain ⟨z276, e_z276⟩ : ∃ z, z = s274 256 48 := ⟨_, rfl⟩
        have g_z276 : (0 : Int) ≤ s274 256 48 ∧ s274 256 48 ≤ 120 := hG_s274 256 48
        obtain ⟨z277, e_z277⟩ : ∃ z, z = s274 256 36 := ⟨_, rfl⟩
        have g_z277 : (0 : Int) ≤ s274 256 36 ∧ s274 256 36 ≤ 160 := hG_s274 256 36
        obtain ⟨z278, e_z278⟩ : ∃ z, z = s274 256 34 := ⟨_, rfl⟩
        have g_z278 : (0 : Int) ≤ s274 256 34 ∧ s274 256 34 ≤ 160 := hG_s274 256 34
        obtain ⟨z279, e_z279⟩ : ∃ z, z = s274 256 43 := ⟨_, rfl⟩
        have g_z279 : (0 : Int) ≤ s274 256 43 ∧ s274 256 43 ≤ 8 := hG_s274 256 43
        obtain ⟨z280, e_z280⟩ : ∃ z, z = s274 256 50 := ⟨_, rfl⟩
        have g_z280 : (0 : Int) ≤ s274 256 50 ∧ s274 256 50 ≤ 5 := hG_s274 256 50
        obtain ⟨z281, e_z281⟩ : ∃ z, z = s274 256 51 := ⟨_, rfl⟩
        have g_z281 : (0 : Int) ≤ s274 256 51 ∧ s274 256 51 ≤ 1 := hG_s274 256 51
        refine x_callV k231_841 (y := 200) (n := 0) (w0 := 0) (w1 := 0) (as := []) (rest := []) (by decide +kernel) (q := 256) (nq := 62) (kq := 15) ⟨by decide, rfl⟩ rfl rfl rfl rfl (xe_mono (C_X11_ask_256 s274 hG_s274 ⟨by omega, by omega⟩ ⟨by omega, by omega⟩ ⟨by omega, by omega⟩ ⟨by omega, by omega⟩ ⟨by omega, by omega⟩ ⟨by omega, by omega⟩ ⟨by omega, by omega⟩ J_s274) ?_)
        rintro s283 v ⟨hG_s283, t_s283, z282, rfl, g_z282, J_s283⟩
        have T0_s283 : T0 s283 := T0.fl T0_s274 t_s283 (by decide)
        have S1_s283 : S1 s283 := S1.fl S1_s274 t_s283 (by decide)
        show xe (some (N, xs)) 231 844 [(0, .ref 2000), (1, .ref 0), (2, .ref 256), (3, vi x3)] [vi z282] s283 295 10442 _
        refine x_A k231_844 (fun _ => rfl) ?_
        refine x_goto k231_845 (t := 1300) rfl ?_
        refine x_iinc k231_1300 (ls' := [(3, vi (x3 + 7)), (0, .ref 2000), (1, .ref 0), (2, .ref 256)]) rfl (by decide) rfl ?_
        refine x_goto k231_1303 (t := 18) rfl ?_
        refine x_ls (l := [(0, .ref 2000), (1, .ref 0), (2, .ref 256), (3, vi (x3 + 7))]) (show ([0, 1, 2, 3] : List Nat).Nodup from by decide) ⟨rfl, rfl, rfl, rfl, trivial⟩ ?_
        exact ih s283 (x3 + 7) hG_s283 trivial ⟨by omega, by omega⟩ J_s283 T0_s283 S1_s283  (by omega)
      · rw [c5]
        refine x_B k231_33 rfl (fun _ => rfl) (fun _ => rfl) (fun _ _ => rfl) ?_
        show xe (some (N, xs)) 231 848 [(0, .ref 2000), (1, .ref 0), (2, .ref 256), (3, vi x3)] [] s 295 10442 _
        refine x_A k231_848 (fun _ => rfl) ?_
        refine x_A k231_849 (fun _ => rfl) ?_
        refine x_A k231_850 (fun _ => rfl) ?_
        refine x_A k231_851 (fun _ => rfl) ?_
        refine x_iadd k231_852 ?_
        refine x_top (fun z284 e_z284 => ?_)
        refine x_scr k231_853 hN ⟨by omega, by omega⟩ (fun z285 g_z285 e_z285 => ?_)
        unfold in32 at g_z285
        refine x_A k231_854 (fun _ => rfl) ?_
        refine x_A k231_855 (fun _ => rfl) ?_
        refine x_A k231_856 (fun _ => rfl) ?_
        refine x_iadd k231_857 ?_
        refine x_top (fun z286 e_z286 => ?_)
        refine x_scr k231_858 hN ⟨by omega, by omega⟩ (fun z287 g_z287 e_z287 => ?_)
        unfold in32 at g_z287
        refine x_A k231_859 (fun _ => rfl) ?_
        refine x_A k231_860 (fun _ => rfl) ?_
        refine x_A k231_861 (fun _ => rfl) ?_
        refine x_iadd k231_862 ?_
        refine x_top (fun z288 e_z288 => ?_)
        refine x_scr k231_863 hN ⟨by omega, by omega⟩ (fun z289 g_z289 e_z289 => ?_)
        unfold in32 at g_z289
        refine x_callV k231_864 (y := 111) (n := 3) (w0 := 0) (w1 := 3) (as := [vi z285, vi z287, vi z289]) (rest := []) (by decide +kernel) (q := 0) (nq := 12) (kq := 3) ⟨by decide, rfl⟩ rfl rfl rfl rfl (xe_mono (C_X10_met_0 s hG i_J z285 ⟨by omega, by omega⟩ z287 ⟨by omega, by omega⟩ z289 ⟨by omega, by omega⟩) ?_)
        rintro s291 v ⟨hG_s291, t_s291, z290, rfl, g_z290⟩
        have J_s291 : J s291 := J.fl i_J t_s291 (by decide)
        have T0_s291 : T0 s291 := T0.fl i_T0 t_s291 (by decide)
        have S1_s291 : S1 s291 := S1.fl i_S1 t_s291 (by decide)
        show xe (some (N, xs)) 231 867 [(0, .ref 2000), (1, .ref 0), (2, .ref 256), (3, vi x3)] [vi z290] s291 295 10442 _
        refine x_A k231_867 (fun _ => rfl) ?_
        refine x_A k231_868 (fun _ => rfl) ?_
        refine x_A k231_869 (fun _ => rfl) ?_
        refine x_A k231_870 (fun _ => rfl) ?_
        refine x_A k231_871 (fun _ => rfl) ?_
        refine x_iadd k231_872 ?_
        refine x_top (fun z292 e_z292 => ?_)
        refine x_scr k231_873 hN ⟨by omega, by omega⟩ (fun z293 g_z293 e_z293 => ?_)
        unfold in32 at g_z293
        have q_z293 : z293 = z285 := by rw [e_z293, e_z285, show z292 = z284 by omega]
        refine x_A k231_874 (fun _ => rfl) ?_
        refine x_A k231_875 (fun _ => rfl) ?_
        refine x_A k231_876 (fun _ => rfl) ?_
        refine x_iadd k231_877 ?_
        refine x_top (fun z294 e_z294 => ?_)
        refine x_scr k231_878 hN ⟨by omega, by omega⟩ (fun z295 g_z295 e_z295 => ?_)
        unfold in32 at g_z295
        have q_z295 : z295 = z287 := by rw [e_z295, e_z287, show z294 = z286 by omega]
        refine x_A k231_879 (fun _ => rfl) ?_
        refine x_A k231_880 (fun _ => rfl) ?_
        refine x_A k231_881 (fun _ => rfl) ?_
        refine x_iadd k231_882 ?_
        refine x_top (fun z296 e_z296 => ?_)
        refine x_scr k231_883 hN ⟨by omega, by omega⟩ (fun z297 g_z297 e_z297 => ?_)
        unfold in32 at g_z297
        have q_z297 : z297 = z289 := by rw [e_z297, e_z289, show z296 = z288 by omega]
        refine x_callV k231_884 (y := 204) (n := 3) (w0 := 0) (w1 := 3) (as := [vi z293, vi z295, vi z297]) (rest := []) (by decide +kernel) (q := 256) (nq := 62) (kq := 15) ⟨by decide, rfl⟩ rfl rfl rfl rfl (xe_mono (C_X11_met_256 s291 hG_s291 J_s291 z293 ⟨by omega, by omega⟩ z295 ⟨by omega, by omega⟩ z297 ⟨by omega, by omega⟩) ?_)
        rintro s299 v ⟨hG_s299, t_s299, z298, rfl, g_z298⟩
        have J_s299 : J s299 := J.fl J_s291 t_s299 (by decide)
        have T0_s299 : T0 s299 := T0.fl T0_s291 t_s299 (by decide)
        have S1_s299 : S1 s299 := S1.fl S1_s291 t_s299 (by decide)
        show xe (some (N, xs)) 231 887 [(0, .ref 2000), (1, .ref 0), (2, .ref 256), (3, vi x3)] [vi z298] s299 295 10442 _
        refine x_A k231_887 (fun _ => rfl) ?_
        refine x_goto k231_888 (t := 1300) rfl ?_
        refine x_iinc k231_1300 (ls' := [(3, vi (x3 + 7)), (0, .ref 2000), (1, .ref 0), (2, .ref 256)]) rfl (by decide) rfl ?_
        refine x_goto k231_1303 (t := 18) rfl ?_
        refine x_ls (l := [(0, .ref 2000), (1, .ref 0), (2, .ref 256), (3, vi (x3 + 7))]) (show ([0, 1, 2, 3] : List Nat).Nodup from by decide) ⟨rfl, rfl, rfl, rfl, trivial⟩ ?_
        exact ih s299 (x3 + 7) hG_s299 trivial ⟨by omega, by omega⟩ J_s299 T0_s299 S1_s299  (by omega)
      · rw [c5]
        refine x_B k231_33 rfl (fun _ => rfl) (fun _ => rfl) (fun _ _ => rfl) ?_
        show xe (some (N, xs)) 231 891 [(0, .ref 2000), (1, .ref 0), (2, .ref 256), (3, vi x3)] [] s 295 10442 _
        refine x_A k231_891 (fun _ => rfl) ?_
        refine x_A k231_892 (fun _ => rfl) ?_
        refine x_A k231_893 (fun _ => rfl) ?_
        refine x_A k231_894 (fun _ => rfl) ?_
        refine x_iadd k231_895 ?_
        refine x_top (fun z300 e_z300 => ?_)
        refine x_scr k231_896 hN ⟨by omega, by omega⟩ (fun z301 g_z301 e_z301 => ?_)
        unfold in32 at g_z301
        refine x_A k231_897 (fun _ => rfl) ?_
        refine x_A k231_898 (fun _ => rfl) ?_
        refine x_A k231_899 (fun _ => rfl) ?_
        refine x_iadd k231_900 ?_
        refine x_top (fun z302 e_z302 => ?_)
        refine x_scr k231_901 hN ⟨by omega, by omega⟩ (fun z303 g_z303 e_z303 => ?_)
        unfold in32 at g_z303
        refine x_A k231_902 (fun _ => rfl) ?_
        refine x_A k231_903 (fun _ => rfl) ?_
        refine x_A k231_904 (fun _ => rfl) ?_
        refine x_iadd k231_905 ?_
        refine x_top (fun z304 e_z304 => ?_)
        refine x_scr k231_906 hN ⟨by omega, by omega⟩ (fun z305 g_z305 e_z305 => ?_)
        unfold in32 at g_z305
        refine x_A k231_907 (fun _ => rfl) ?_
        refine x_A k231_908 (fun _ => rfl) ?_
        refine x_A k231_909 (fun _ => rfl) ?_
        refine x_iadd k231_910 ?_
        refine x_top (fun z306 e_z306 => ?_)
        refine x_scr k231_911 hN ⟨by omega, by omega⟩ (fun z307 g_z307 e_z307 => ?_)
        unfold in32 at g_z307
        refine x_A k231_912 (fun _ => rfl) ?_
        refine x_A k231_913 (fun _ => rfl) ?_
        refine x_A k231_914 (fun _ => rfl) ?_
        refine x_iadd k231_915 ?_
        refine x_top (fun z308 e_z308 => ?_)
        refine x_scr k231_916 hN ⟨by omega, by omega⟩ (fun z309 g_z309 e_z309 => ?_)
        unfold in32 at g_z309
        refine x_callV k231_917 (y := 112) (n := 5) (w0 := 0) (w1 := 5) (as := [vi z301, vi z303, vi z305, vi z307, vi z309]) (rest := []) (by decide +kernel) (q := 0) (nq := 12) (kq := 3) ⟨by decide, rfl⟩ rfl rfl rfl rfl (xe_mono (C_X10_hands_0 s hG i_J z301 ⟨by omega, by omega⟩ z303 ⟨by omega, by omega⟩ z305 ⟨by omega, by omega⟩ z307 ⟨by omega, by omega⟩ z309 ⟨by omega, by omega⟩) ?_)
        rintro s311 v ⟨hG_s311, t_s311, z310, rfl, g_z310⟩
        have J_s311 : J s311 := J.fl i_J t_s311 (by decide)
        have T0_s311 : T0 s311 := T0.fl i_T0 t_s311 (by decide)
        have S1_s311 : S1 s311 := S1.fl i_S1 t_s311 (by decide)
        show xe (some (N, xs)) 231 920 [(0, .ref 2000), (1, .ref 0), (2, .ref 256), (3, vi x3)] [vi z310] s311 295 10442 _
        refine x_A k231_920 (fun _ => rfl) ?_
        refine x_A k231_921 (fun _ => rfl) ?_
        refine x_A k231_922 (fun _ => rfl) ?_
        refine x_A k231_923 (fun _ => rfl) ?_
        refine x_A k231_924 (fun _ => rfl) ?_
        refine x_iadd k231_925 ?_
        refine x_top (fun z312 e_z312 => ?_)
        refine x_scr k231_926 hN ⟨by omega, by omega⟩ (fun z313 g_z313 e_z313 => ?_)
        unfold in32 at g_z313
        have q_z313 : z313 = z301 := by rw [e_z313, e_z301, show z312 = z300 by omega]
        refine x_A k231_927 (fun _ => rfl) ?_
        refine x_A k231_928 (fun _ => rfl) ?_
        refine x_A k231_929 (fun _ => rfl) ?_
        refine x_iadd k231_930 ?_
        refine x_top (fun z314 e_z314 => ?_)
        refine x_scr k231_931 hN ⟨by omega, by omega⟩ (fun z315 g_z315 e_z315 => ?_)
        unfold in32 at g_z315
        have q_z315 : z315 = z303 := by rw [e_z315, e_z303, show z314 = z302 by omega]
        refine x_A k231_932 (fun _ => rfl) ?_
        refine x_A k231_933 (fun _ => rfl) ?_
        refine x_A k231_934 (fun _ => rfl) ?_
        refine x_iadd k231_935 ?_
        refine x_top (fun z316 e_z316 => ?_)
        refine x_scr k231_936 hN ⟨by omega, by omega⟩ (fun z317 g_z317 e_z317 => ?_)
        unfold in32 at g_z317
        have q_z317 : z317 = z305 := by rw [e_z317, e_z305, show z316 = z304 by omega]
        refine x_A k231_937 (fun _ => rfl) ?_
        refine x_A k231_938 (fun _ => rfl) ?_
        refine x_A k231_939 (fun _ => rfl) ?_
        refine x_iadd k231_940 ?_
        refine x_top (fun z318 e_z318 => ?_)
        refine x_scr k231_941 hN ⟨by omega, by omega⟩ (fun z319 g_z319 e_z319 => ?_)
        unfold in32 at g_z319
        have q_z319 : z319 = z307 := by rw [e_z319, e_z307, show z318 = z306 by omega]
        refine x_A k231_942 (fun _ => rfl) ?_
        refine x_A k231_943 (fun _ => rfl) ?_
        refine x_A k231_944 (fun _ => rfl) ?_
        refine x_iadd k231_945 ?_
        refine x_top (fun z320 e_z320 => ?_)
        refine x_scr k231_946 hN ⟨by omega, by omega⟩ (fun z321 g_z321 e_z321 => ?_)
        unfold in32 at g_z321
        have q_z321 : z321 = z309 := by rw [e_z321, e_z309, show z320 = z308 by omega]
        refine x_callV k231_947 (y := 206) (n := 5) (w0 := 0) (w1 := 5) (as := [vi z313, vi z315, vi z317, vi z319, vi z321]) (rest := []) (by decide +kernel) (q := 256) (nq := 62) (kq := 15) ⟨by decide, rfl⟩ rfl rfl rfl rfl (xe_mono (C_X11_hands_256 s311 hG_s311 J_s311 z313 ⟨by omega, by omega⟩ z315 ⟨by omega, by omega⟩ z317 ⟨by omega, by omega⟩ z319 ⟨by omega, by omega⟩ z321 ⟨by omega, by omega⟩) ?_)
        rintro s323 v ⟨hG_s323, t_s323, z322, rfl, g_z322⟩
        have J_s323 : J s323 := J.fl J_s311 t_s323 (by decide)
        have T0_s323 : T0 s323 := T0.fl T0_s311 t_s323 (by decide)
        have S1_s323 : S1 s323 := S1.fl S1_s311 t_s323 (by decide)
        show xe (some (N, xs)) 231 950 [(0, .ref 2000), (1, .ref 0), (2, .ref 256), (3, vi x3)] [vi z322] s323 295 10442 _
        refine x_A k231_950 (fun _ => rfl) ?_
        refine x_goto k231_951 (t := 1300) rfl ?_
        refine x_iinc k231_1300 (ls' := [(3, vi (x3 + 7)), (0, .ref 2000), (1, .ref 0), (2, .ref 256)]) rfl (by decide) rfl ?_
        refine x_goto k231_1303 (t := 18) rfl ?_
        refine x_ls (l := [(0, .ref 2000), (1, .ref 0), (2, .ref 256), (3, vi (x3 + 7))]) (show ([0, 1, 2, 3] : List Nat).Nodup from by decide) ⟨rfl, rfl, rfl, rfl, trivial⟩ ?_
        exact ih s323 (x3 + 7) hG_s323 trivial ⟨by omega, by omega⟩ J_s323 T0_s323 S1_s323  (by omega)
      · rw [c5]
        refine x_B k231_33 rfl (fun _ => rfl) (fun _ => rfl) (fun _ _ => rfl) ?_
        show xe (some (N, xs)) 231 954 [(0, .ref 2000), (1, .ref 0), (2, .ref 256), (3, vi x3)] [] s 295 10442 _
        refine x_A k231_954 (fun _ => rfl) ?_
        refine x_A k231_955 (fun _ => rfl) ?_
        refine x_A k231_956 (fun _ => rfl) ?_
        refine x_A k231_957 (fun _ => rfl) ?_
        refine x_iadd k231_958 ?_
        refine x_top (fun z324 e_z324 => ?_)
        refine x_scr k231_959 hN ⟨by omega, by omega⟩ (fun z325 g_z325 e_z325 => ?_)
        unfold in32 at g_z325
        refine x_A k231_960 (fun _ => rfl) ?_
        refine x_A k231_961 (fun _ => rfl) ?_
        refine x_A k231_962 (fun _ => rfl) ?_
        refine x_iadd k231_963 ?_
        refine x_top (fun z326 e_z326 => ?_)
        refine x_scr k231_964 hN ⟨by omega, by omega⟩ (fun z327 g_z327 e_z327 => ?_)
        unfold in32 at g_z327
        refine x_A k231_965 (fun _ => rfl) ?_
        refine x_A k231_966 (fun _ => rfl) ?_
        refine x_A k231_967 (fun _ => rfl) ?_
        refine x_iadd k231_968 ?_
        refine x_top (fun z328 e_z328 => ?_)
        refine x_scr k231_969 hN ⟨by omega, by omega⟩ (fun z329 g_z329 e_z329 => ?_)
        unfold in32 at g_z329
        refine x_A k231_970 (fun _ => rfl) ?_
        refine x_A k231_971 (fun _ => rfl) ?_
        refine x_A k231_972 (fun _ => rfl) ?_
        refine x_iadd k231_973 ?_
        refine x_top (fun z330 e_z330 => ?_)
        refine x_scr k231_974 hN ⟨by omega, by omega⟩ (fun z331 g_z331 e_z331 => ?_)
        unfold in32 at g_z331
        refine x_A k231_975 (fun _ => rfl) ?_
        refine x_A k231_976 (fun _ => rfl) ?_
        refine x_A k231_977 (fun _ => rfl) ?_
        refine x_iadd k231_978 ?_
        refine x_top (fun z332 e_z332 => ?_)
        refine x_scr k231_979 hN ⟨by omega, by omega⟩ (fun z333 g_z333 e_z333 => ?_)
        unfold in32 at g_z333
        refine x_A k231_980 (fun _ => rfl) ?_
        refine x_A k231_981 (fun _ => rfl) ?_
        refine x_bipush k231_982 (by decide +kernel) ?_
        refine x_iadd k231_984 ?_
        refine x_top (fun z334 e_z334 => ?_)
        refine x_scr k231_985 hN ⟨by omega, by omega⟩ (fun z335 g_z335 e_z335 => ?_)
        unfold in32 at g_z335
        refine x_callV k231_986 (y := 113) (n := 6) (w0 := 0) (w1 := 6) (as := [vi z325, vi z327, vi z329, vi z331, vi z333, vi z335]) (rest := []) (by decide +kernel) (q := 0) (nq := 12) (kq := 3) ⟨by decide, rfl⟩ rfl rfl rfl rfl (xe_mono (C_X10_together_0 s hG i_J z325 ⟨by omega, by omega⟩ z327 ⟨by omega, by omega⟩ z329 ⟨by omega, by omega⟩ z331 ⟨by omega, by omega⟩ z333 ⟨by omega, by omega⟩ z335 ⟨by omega, by omega⟩) ?_)
        rintro s337 v ⟨hG_s337, t_s337, z336, rfl, g_z336⟩
        have J_s337 : J s337 := J.fl i_J t_s337 (by decide)
        have T0_s337 : T0 s337 := T0.fl i_T0 t_s337 (by decide)
        have S1_s337 : S1 s337 := S1.fl i_S1 t_s337 (by decide)
        show xe (some (N, xs)) 231 989 [(0, .ref 2000), (1, .ref 0), (2, .ref 256), (3, vi x3)] [vi z336] s337 295 10442 _
        refine x_A k231_989 (fun _ => rfl) ?_
        refine x_A k231_990 (fun _ => rfl) ?_
        refine x_A k231_991 (fun _ => rfl) ?_
        refine x_A k231_992 (fun _ => rfl) ?_
        refine x_A k231_993 (fun _ => rfl) ?_
        refine x_iadd k231_994 ?_
        refine x_top (fun z338 e_z338 => ?_)
        refine x_scr k231_995 hN ⟨by omega, by omega⟩ (fun z339 g_z339 e_z339 => ?_)
        unfold in32 at g_z339
        have q_z339 : z339 = z325 := by rw [e_z339, e_z325, show z338 = z324 by omega]
        refine x_A k231_996 (fun _ => rfl) ?_
        refine x_A k231_997 (fun _ => rfl) ?_
        refine x_A k231_998 (fun _ => rfl) ?_
        refine x_iadd k231_999 ?_
        refine x_top (fun z340 e_z340 => ?_)
        refine x_scr k231_1000 hN ⟨by omega, by omega⟩ (fun z341 g_z341 e_z341 => ?_)
        unfold in32 at g_z341
        have q_z341 : z341 = z327 := by rw [e_z341, e_z327, show z340 = z326 by omega]
        refine x_A k231_1001 (fun _ => rfl) ?_
        refine x_A k231_1002 (fun _ => rfl) ?_
        refine x_A k231_1003 (fun _ => rfl) ?_
        refine x_iadd k231_1004 ?_
        refine x_top (fun z342 e_z342 => ?_)
        refine x_scr k231_1005 hN ⟨by omega, by omega⟩ (fun z343 g_z343 e_z343 => ?_)
        unfold in32 at g_z343
        have q_z343 : z343 = z329 := by rw [e_z343, e_z329, show z342 = z328 by omega]
        refine x_A k231_1006 (fun _ => rfl) ?_
        refine x_A k231_1007 (fun _ => rfl) ?_
        refine x_A k231_1008 (fun _ => rfl) ?_
        refine x_iadd k231_1009 ?_
        refine x_top (fun z344 e_z344 => ?_)
        refine x_scr k231_1010 hN ⟨by omega, by omega⟩ (fun z345 g_z345 e_z345 => ?_)
        unfold in32 at g_z345
        have q_z345 : z345 = z331 := by rw [e_z345, e_z331, show z344 = z330 by omega]
        refine x_A k231_1011 (fun _ => rfl) ?_
        refine x_A k231_1012 (fun _ => rfl) ?_
        refine x_A k231_1013 (fun _ => rfl) ?_
        refine x_iadd k231_1014 ?_
        refine x_top (fun z346 e_z346 => ?_)
        refine x_scr k231_1015 hN ⟨by omega, by omega⟩ (fun z347 g_z347 e_z347 => ?_)
        unfold in32 at g_z347
        have q_z347 : z347 = z333 := by rw [e_z347, e_z333, show z346 = z332 by omega]
        refine x_A k231_1016 (fun _ => rfl) ?_
        refine x_A k231_1017 (fun _ => rfl) ?_
        refine x_bipush k231_1018 (by decide +kernel) ?_
        refine x_iadd k231_1020 ?_
        refine x_top (fun z348 e_z348 => ?_)
        refine x_scr k231_1021 hN ⟨by omega, by omega⟩ (fun z349 g_z349 e_z349 => ?_)
        unfold in32 at g_z349
        have q_z349 : z349 = z335 := by rw [e_z349, e_z335, show z348 = z334 by omega]
        refine x_callV k231_1022 (y := 208) (n := 6) (w0 := 0) (w1 := 6) (as := [vi z339, vi z341, vi z343, vi z345, vi z347, vi z349]) (rest := []) (by decide +kernel) (q := 256) (nq := 62) (kq := 15) ⟨by decide, rfl⟩ rfl rfl rfl rfl (xe_mono (C_X11_together_256 s337 hG_s337 J_s337 z339 ⟨by omega, by omega⟩ z341 ⟨by omega, by omega⟩ z343 ⟨by omega, by omega⟩ z345 ⟨by omega, by omega⟩ z347 ⟨by omega, by omega⟩ z349 ⟨by omega, by omega⟩) ?_)
        rintro s351 v ⟨hG_s351, t_s351, z350, rfl, g_z350⟩
        have J_s351 : J s351 := J.fl J_s337 t_s351 (by decide)
        have T0_s351 : T0 s351 := T0.fl T0_s337 t_s351 (by decide)
        have S1_s351 : S1 s351 := S1.fl S1_s337 t_s351 (by decide)
        show xe (some (N, xs)) 231 1025 [(0, .ref 2000), (1, .ref 0), (2, .ref 256), (3, vi x3)] [vi z350] s351 295 10442 _
        refine x_A k231_1025 (fun _ => rfl) ?_
        refine x_goto k231_1026 (t := 1300) rfl ?_
        refine x_iinc k231_1300 (ls' := [(3, vi (x3 + 7)), (0, .ref 2000), (1, .ref 0), (2, .ref 256)]) rfl (by decide) rfl ?_
        refine x_goto k231_1303 (t := 18) rfl ?_
        refine x_ls (l := [(0, .ref 2000), (1, .ref 0), (2, .ref 256), (3, vi (x3 + 7))]) (show ([0, 1, 2, 3] : List Nat).Nodup from by decide) ⟨rfl, rfl, rfl, rfl, trivial⟩ ?_
        exact ih s351 (x3 + 7) hG_s351 trivial ⟨by omega, by omega⟩ J_s351 T0_s351 S1_s351  (by omega)
      · rw [c5]
        refine x_B k231_33 rfl (fun _ => rfl) (fun _ => rfl) (fun _ _ => rfl) ?_
        show xe (some (N, xs)) 231 1029 [(0, .ref 2000), (1, .ref 0), (2, .ref 256), (3, vi x3)] [] s 295 10442 _
        refine x_A k231_1029 (fun _ => rfl) ?_
        refine x_A k231_1030 (fun _ => rfl) ?_
        refine x_A k231_1031 (fun _ => rfl) ?_
        refine x_A k231_1032 (fun _ => rfl) ?_
        refine x_iadd k231_1033 ?_
        refine x_top (fun z352 e_z352 => ?_)
        refine x_scr k231_1034 hN ⟨by omega, by omega⟩ (fun z353 g_z353 e_z353 => ?_)
        unfold in32 at g_z353
        refine x_A k231_1035 (fun _ => rfl) ?_
        refine x_A k231_1036 (fun _ => rfl) ?_
        refine x_A k231_1037 (fun _ => rfl) ?_
        refine x_iadd k231_1038 ?_
        refine x_top (fun z354 e_z354 => ?_)
        refine x_scr k231_1039 hN ⟨by omega, by omega⟩ (fun z355 g_z355 e_z355 => ?_)
        unfold in32 at g_z355
        refine x_A k231_1040 (fun _ => rfl) ?_
        refine x_A k231_1041 (fun _ => rfl) ?_
        refine x_A k231_1042 (fun _ => rfl) ?_
        refine x_iadd k231_1043 ?_
        refine x_top (fun z356 e_z356 => ?_)
        refine x_scr k231_1044 hN ⟨by omega, by omega⟩ (fun z357 g_z357 e_z357 => ?_)
        unfold in32 at g_z357
        refine x_callV k231_1045 (y := 114) (n := 3) (w0 := 0) (w1 := 3) (as := [vi z353, vi z355, vi z357]) (rest := []) (by decide +kernel) (q := 0) (nq := 12) (kq := 3) ⟨by decide, rfl⟩ rfl rfl rfl rfl (xe_mono (C_X10_along_0 s hG i_J z353 ⟨by omega, by omega⟩ z355 ⟨by omega, by omega⟩ z357 ⟨by omega, by omega⟩) ?_)
        rintro s359 v ⟨hG_s359, t_s359, z358, rfl, g_z358⟩
        have J_s359 : J s359 := J.fl i_J t_s359 (by decide)
        have T0_s359 : T0 s359 := T0.fl i_T0 t_s359 (by decide)
        have S1_s359 : S1 s359 := S1.fl i_S1 t_s359 (by decide)
        show xe (some (N, xs)) 231 1048 [(0, .ref 2000), (1, .ref 0), (2, .ref 256), (3, vi x3)] [vi z358] s359 295 10442 _
        refine x_A k231_1048 (fun _ => rfl) ?_
        refine x_A k231_1049 (fun _ => rfl) ?_
        refine x_A k231_1050 (fun _ => rfl) ?_
        refine x_A k231_1051 (fun _ => rfl) ?_
        refine x_A k231_1052 (fun _ => rfl) ?_
        refine x_iadd k231_1053 ?_
        refine x_top (fun z360 e_z360 => ?_)
        refine x_scr k231_1054 hN ⟨by omega, by omega⟩ (fun z361 g_z361 e_z361 => ?_)
        unfold in32 at g_z361
        have q_z361 : z361 = z353 := by rw [e_z361, e_z353, show z360 = z352 by omega]
        refine x_A k231_1055 (fun _ => rfl) ?_
        refine x_A k231_1056 (fun _ => rfl) ?_
        refine x_A k231_1057 (fun _ => rfl) ?_
        refine x_iadd k231_1058 ?_
        refine x_top (fun z362 e_z362 => ?_)
        refine x_scr k231_1059 hN ⟨by omega, by omega⟩ (fun z363 g_z363 e_z363 => ?_)
        unfold in32 at g_z363
        have q_z363 : z363 = z355 := by rw [e_z363, e_z355, show z362 = z354 by omega]
        refine x_A k231_1060 (fun _ => rfl) ?_
        refine x_A k231_1061 (fun _ => rfl) ?_
        refine x_A k231_1062 (fun _ => rfl) ?_
        refine x_iadd k231_1063 ?_
        refine x_top (fun z364 e_z364 => ?_)
        refine x_scr k231_1064 hN ⟨by omega, by omega⟩ (fun z365 g_z365 e_z365 => ?_)
        unfold in32 at g_z365
        have q_z365 : z365 = z357 := by rw [e_z365, e_z357, show z364 = z356 by omega]
        refine x_callV k231_1065 (y := 211) (n := 3) (w0 := 0) (w1 := 3) (as := [vi z361, vi z363, vi z365]) (rest := []) (by decide +kernel) (q := 256) (nq := 62) (kq := 15) ⟨by decide, rfl⟩ rfl rfl rfl rfl (xe_mono (C_X11_along_256 s359 hG_s359 J_s359 z361 ⟨by omega, by omega⟩ z363 ⟨by omega, by omega⟩ z365 ⟨by omega, by omega⟩) ?_)
        rintro s367 v ⟨hG_s367, t_s367, z366, rfl, g_z366⟩
        have J_s367 : J s367 := J.fl J_s359 t_s367 (by decide)
        have T0_s367 : T0 s367 := T0.fl T0_s359 t_s367 (by decide)
        have S1_s367 : S1 s367 := S1.fl S1_s359 t_s367 (by decide)
        show xe (some (N, xs)) 231 1068 [(0, .ref 2000), (1, .ref 0), (2, .ref 256), (3, vi x3)] [vi z366] s367 295 10442 _
        refine x_A k231_1068 (fun _ => rfl) ?_
        refine x_goto k231_1069 (t := 1300) rfl ?_
        refine x_iinc k231_1300 (ls' := [(3, vi (x3 + 7)), (0, .ref 2000), (1, .ref 0), (2, .ref 256)]) rfl (by decide) rfl ?_
        refine x_goto k231_1303 (t := 18) rfl ?_
        refine x_ls (l := [(0, .ref 2000), (1, .ref 0), (2, .ref 256), (3, vi (x3 + 7))]) (show ([0, 1, 2, 3] : List Nat).Nodup from by decide) ⟨rfl, rfl, rfl, rfl, trivial⟩ ?_
        exact ih s367 (x3 + 7) hG_s367 trivial ⟨by omega, by omega⟩ J_s367 T0_s367 S1_s367  (by omega)
      · rw [c5]
        refine x_B k231_33 rfl (fun _ => rfl) (fun _ => rfl) (fun _ _ => rfl) ?_
        show xe (some (N, xs)) 231 1072 [(0, .ref 2000), (1, .ref 0), (2, .ref 256), (3, vi x3)] [] s 295 10442 _
        refine x_A k231_1072 (fun _ => rfl) ?_
        refine x_A k231_1073 (fun _ => rfl) ?_
        refine x_A k231_1074 (fun _ => rfl) ?_
        refine x_A k231_1075 (fun _ => rfl) ?_
        refine x_iadd k231_1076 ?_
        refine x_top (fun z368 e_z368 => ?_)
        refine x_scr k231_1077 hN ⟨by omega, by omega⟩ (fun z369 g_z369 e_z369 => ?_)
        unfold in32 at g_z369
        refine x_A k231_1078 (fun _ => rfl) ?_
        refine x_A k231_1079 (fun _ => rfl) ?_
        refine x_A k231_1080 (fun _ => rfl) ?_
        refine x_iadd k231_1081 ?_
        refine x_top (fun z370 e_z370 => ?_)
        refine x_scr k231_1082 hN ⟨by omega, by omega⟩ (fun z371 g_z371 e_z371 => ?_)
        unfold in32 at g_z371
        refine x_A k231_1083 (fun _ => rfl) ?_
        refine x_A k231_1084 (fun _ => rfl) ?_
        refine x_A k231_1085 (fun _ => rfl) ?_
        refine x_iadd k231_1086 ?_
        refine x_top (fun z372 e_z372 => ?_)
        refine x_scr k231_1087 hN ⟨by omega, by omega⟩ (fun z373 g_z373 e_z373 => ?_)
        unfold in32 at g_z373
        refine x_callV k231_1088 (y := 115) (n := 3) (w0 := 0) (w1 := 3) (as := [vi z369, vi z371, vi z373]) (rest := []) (by decide +kernel) (q := 0) (nq := 12) (kq := 3) ⟨by decide, rfl⟩ rfl rfl rfl rfl (xe_mono (C_X10_likely_0 s hG i_J z369 ⟨by omega, by omega⟩ z371 ⟨by omega, by omega⟩ z373 ⟨by omega, by omega⟩) ?_)
        rintro s375 v ⟨hG_s375, t_s375, z374, rfl, g_z374⟩
        have J_s375 : J s375 := J.fl i_J t_s375 (by decide)
        have T0_s375 : T0 s375 := T0.fl i_T0 t_s375 (by decide)
        have S1_s375 : S1 s375 := S1.fl i_S1 t_s375 (by decide)
        show xe (some (N, xs)) 231 1091 [(0, .ref 2000), (1, .ref 0), (2, .ref 256), (3, vi x3)] [vi z374] s375 295 10442 _
        refine x_A k231_1091 (fun _ => rfl) ?_
        refine x_A k231_1092 (fun _ => rfl) ?_
        refine x_A k231_1093 (fun _ => rfl) ?_
        refine x_A k231_1094 (fun _ => rfl) ?_
        refine x_A k231_1095 (fun _ => rfl) ?_
        refine x_iadd k231_1096 ?_
        refine x_top (fun z376 e_z376 => ?_)
        refine x_scr k231_1097 hN ⟨by omega, by omega⟩ (fun z377 g_z377 e_z377 => ?_)
        unfold in32 at g_z377
        have q_z377 : z377 = z369 := by rw [e_z377, e_z369, show z376 = z368 by omega]
        refine x_A k231_1098 (fun _ => rfl) ?_
        refine x_A k231_1099 (fun _ => rfl) ?_
        refine x_A k231_1100 (fun _ => rfl) ?_
        refine x_iadd k231_1101 ?_
        refine x_top (fun z378 e_z378 => ?_)
        refine x_scr k231_1102 hN ⟨by omega, by omega⟩ (fun z379 g_z379 e_z379 => ?_)
        unfold in32 at g_z379
        have q_z379 : z379 = z371 := by rw [e_z379, e_z371, show z378 = z370 by omega]
        refine x_A k231_1103 (fun _ => rfl) ?_
        refine x_A k231_1104 (fun _ => rfl) ?_
        refine x_A k231_1105 (fun _ => rfl) ?_
        refine x_iadd k231_1106 ?_
        refine x_top (fun z380 e_z380 => ?_)
        refine x_scr k231_1107 hN ⟨by omega, by omega⟩ (fun z381 g_z381 e_z381 => ?_)
        unfold in32 at g_z381
        have q_z381 : z381 = z373 := by rw [e_z381, e_z373, show z380 = z372 by omega]
        refine x_callV k231_1108 (y := 212) (n := 3) (w0 := 0) (w1 := 3) (as := [vi z377, vi z379, vi z381]) (rest := []) (by decide +kernel) (q := 256) (nq := 62) (kq := 15) ⟨by decide, rfl⟩ rfl rfl rfl rfl (xe_mono (C_X11_likely_256 s375 hG_s375 J_s375 z377 ⟨by omega, by omega⟩ z379 ⟨by omega, by omega⟩ z381 ⟨by omega, by omega⟩) ?_)
        rintro s383 v ⟨hG_s383, t_s383, z382, rfl, g_z382⟩
        have J_s383 : J s383 := J.fl J_s375 t_s383 (by decide)
        have T0_s383 : T0 s383 := T0.fl T0_s375 t_s383 (by decide)
        have S1_s383 : S1 s383 := S1.fl S1_s375 t_s383 (by decide)
        show xe (some (N, xs)) 231 1111 [(0, .ref 2000), (1, .ref 0), (2, .ref 256), (3, vi x3)] [vi z382] s383 295 10442 _
        refine x_A k231_1111 (fun _ => rfl) ?_
        refine x_goto k231_1112 (t := 1300) rfl ?_
        refine x_iinc k231_1300 (ls' := [(3, vi (x3 + 7)), (0, .ref 2000), (1, .ref 0), (2, .ref 256)]) rfl (by decide) rfl ?_
        refine x_goto k231_1303 (t := 18) rfl ?_
        refine x_ls (l := [(0, .ref 2000), (1, .ref 0), (2, .ref 256), (3, vi (x3 + 7))]) (show ([0, 1, 2, 3] : List Nat).Nodup from by decide) ⟨rfl, rfl, rfl, rfl, trivial⟩ ?_
        exact ih s383 (x3 + 7) hG_s383 trivial ⟨by omega, by omega⟩ J_s383 T0_s383 S1_s383  (by omega)
      · rw [c5]
        refine x_B k231_33 rfl (fun _ => rfl) (fun _ => rfl) (fun _ _ => rfl) ?_
        show xe (some (N, xs)) 231 1115 [(0, .ref 2000), (1, .ref 0), (2, .ref 256), (3, vi x3)] [] s 295 10442 _
        refine x_A k231_1115 (fun _ => rfl) ?_
        refine x_A k231_1116 (fun _ => rfl) ?_
        refine x_A k231_1117 (fun _ => rfl) ?_
        refine x_A k231_1118 (fun _ => rfl) ?_
        refine x_iadd k231_1119 ?_
        refine x_top (fun z384 e_z384 => ?_)
        refine x_scr k231_1120 hN ⟨by omega, by omega⟩ (fun z385 g_z385 e_z385 => ?_)
        unfold in32 at g_z385
        refine x_A k231_1121 (fun _ => rfl) ?_
        refine x_A k231_1122 (fun _ => rfl) ?_
        refine x_A k231_1123 (fun _ => rfl) ?_
        refine x_iadd k231_1124 ?_
        refine x_top (fun z386 e_z386 => ?_)
        refine x_scr k231_1125 hN ⟨by omega, by omega⟩ (fun z387 g_z387 e_z387 => ?_)
        unfold in32 at g_z387
        refine x_callV k231_1126 (y := 116) (n := 2) (w0 := 0) (w1 := 2) (as := [vi z385, vi z387]) (rest := []) (by decide +kernel) (q := 0) (nq := 12) (kq := 3) ⟨by decide, rfl⟩ rfl rfl rfl rfl (xe_mono (C_X10_lacking_0 s hG i_J z385 ⟨by omega, by omega⟩ z387 ⟨by omega, by omega⟩) ?_)
        rintro s389 v ⟨hG_s389, t_s389, z388, rfl, b_z388⟩
        have J_s389 : J s389 := J.fl i_J t_s389 (by decide)
        have T0_s389 : T0 s389 := T0.fl i_T0 t_s389 (by decide)
        have S1_s389 : S1 s389 := S1.fl i_S1 t_s389 (by decide)
        show xe (some (N, xs)) 231 1129 [(0, .ref 2000), (1, .ref 0), (2, .ref 256), (3, vi x3)] [vj z388] s389 295 10442 _
        refine x_A k231_1129 (fun _ => rfl) ?_
        refine x_A k231_1130 (fun _ => rfl) ?_
        refine x_A k231_1131 (fun _ => rfl) ?_
        refine x_A k231_1132 (fun _ => rfl) ?_
        refine x_A k231_1133 (fun _ => rfl) ?_
        refine x_iadd k231_1134 ?_
        refine x_top (fun z390 e_z390 => ?_)
        refine x_scr k231_1135 hN ⟨by omega, by omega⟩ (fun z391 g_z391 e_z391 => ?_)
        unfold in32 at g_z391
        have q_z391 : z391 = z385 := by rw [e_z391, e_z385, show z390 = z384 by omega]
        refine x_A k231_1136 (fun _ => rfl) ?_
        refine x_A k231_1137 (fun _ => rfl) ?_
        refine x_A k231_1138 (fun _ => rfl) ?_
        refine x_iadd k231_1139 ?_
        refine x_top (fun z392 e_z392 => ?_)
        refine x_scr k231_1140 hN ⟨by omega, by omega⟩ (fun z393 g_z393 e_z393 => ?_)
        unfold in32 at g_z393
        have q_z393 : z393 = z387 := by rw [e_z393, e_z387, show z392 = z386 by omega]
        refine x_callV k231_1141 (y := 214) (n := 2) (w0 := 0) (w1 := 2) (as := [vi z391, vi z393]) (rest := []) (by decide +kernel) (q := 256) (nq := 62) (kq := 15) ⟨by decide, rfl⟩ rfl rfl rfl rfl (xe_mono (C_X11_lacking_256 s389 hG_s389 J_s389 z391 ⟨by omega, by omega⟩ z393 ⟨by omega, by omega⟩) ?_)
        rintro s395 v ⟨hG_s395, t_s395, z394, rfl, b_z394⟩
        have J_s395 : J s395 := J.fl J_s389 t_s395 (by decide)
        have T0_s395 : T0 s395 := T0.fl T0_s389 t_s395 (by decide)
        have S1_s395 : S1 s395 := S1.fl S1_s389 t_s395 (by decide)
        show xe (some (N, xs)) 231 1144 [(0, .ref 2000), (1, .ref 0), (2, .ref 256), (3, vi x3)] [vj z394] s395 295 10442 _
        refine x_A k231_1144 (fun _ => rfl) ?_
        refine x_goto k231_1145 (t := 1300) rfl ?_
        refine x_iinc k231_1300 (ls' := [(3, vi (x3 + 7)), (0, .ref 2000), (1, .ref 0), (2, .ref 256)]) rfl (by decide) rfl ?_
        refine x_goto k231_1303 (t := 18) rfl ?_
        refine x_ls (l := [(0, .ref 2000), (1, .ref 0), (2, .ref 256), (3, vi (x3 + 7))]) (show ([0, 1, 2, 3] : List Nat).Nodup from by decide) ⟨rfl, rfl, rfl, rfl, trivial⟩ ?_
        exact ih s395 (x3 + 7) hG_s395 trivial ⟨by omega, by omega⟩ J_s395 T0_s395 S1_s395  (by omega)
      · rw [c5]
        refine x_B k231_33 rfl (fun _ => rfl) (fun _ => rfl) (fun _ _ => rfl) ?_
        show xe (some (N, xs)) 231 1148 [(0, .ref 2000), (1, .ref 0), (2, .ref 256), (3, vi x3)] [] s 295 10442 _
        refine x_A k231_1148 (fun _ => rfl) ?_
        refine x_callV k231_1149 (y := 117) (n := 0) (w0 := 0) (w1 := 0) (as := []) (rest := []) (by decide +kernel) (q := 0) (nq := 12) (kq := 3) ⟨by decide, rfl⟩ rfl rfl rfl rfl (xe_mono (E_X10_story_0 s hG) ?_)
        rintro s397 v ⟨hG_s397, t_s397, z396, rfl, g_z396, xp_z396⟩
        have J_s397 : J s397 := J.fl i_J t_s397 (by decide)
        have T0_s397 : T0 s397 := T0.fl i_T0 t_s397 (by decide)
        obtain ⟨z398, e_z398⟩ : ∃ z, z = s397 231 3 := ⟨_, rfl⟩
        have g_z398 : (0 : Int) ≤ s397 231 3 ∧ s397 231 3 ≤ 4 := hG_s397 231 3
        show xe (some (N, xs)) 231 1152 [(0, .ref 2000), (1, .ref 0), (2, .ref 256), (3, vi x3)] [vi z396] s397 295 10442 _
        refine x_A k231_1152 (fun _ => rfl) ?_
        refine x_A k231_1153 (fun _ => rfl) ?_
        refine x_callV k231_1154 (y := 215) (n := 0) (w0 := 0) (w1 := 0) (as := []) (rest := []) (by decide +kernel) (q := 256) (nq := 62) (kq := 15) ⟨by decide, rfl⟩ rfl rfl rfl rfl (xe_mono (E_X11_story_256 s397 hG_s397) ?_)
        rintro s400 v ⟨hG_s400, t_s400, z399, rfl, g_z399, xp_z399⟩
        have q401 : s400 231 3 = z398 := (t_s400 231 3 (show 2884 ∉ [4155, 6400] from by decide)).trans e_z398.symm
        have J_s400 : J s400 := J.fl J_s397 t_s400 (by decide)
        have T0_s400 : T0 s400 := T0.fl T0_s397 t_s400 (by decide)
        obtain ⟨z402, e_z402⟩ : ∃ z, z = s400 256 58 := ⟨_, rfl⟩
        have g_z402 : (0 : Int) ≤ s400 256 58 ∧ s400 256 58 ≤ 4 := hG_s400 256 58
        show xe (some (N, xs)) 231 1157 [(0, .ref 2000), (1, .ref 0), (2, .ref 256), (3, vi x3)] [vi z399] s400 295 10442 _
        obtain ⟨ez_s400, S1_s400⟩ := S1.story i_S1 hG t_s397 t_s400 (by decide) (by decide) xp_z396 xp_z399
        refine x_A k231_1157 (fun _ => rfl) ?_
        refine x_goto k231_1158 (t := 1300) rfl ?_
        refine x_iinc k231_1300 (ls' := [(3, vi (x3 + 7)), (0, .ref 2000), (1, .ref 0), (2, .ref 256)]) rfl (by decide) rfl ?_
        refine x_goto k231_1303 (t := 18) rfl ?_
        refine x_ls (l := [(0, .ref 2000), (1, .ref 0), (2, .ref 256), (3, vi (x3 + 7))]) (show ([0, 1, 2, 3] : List Nat).Nodup from by decide) ⟨rfl, rfl, rfl, rfl, trivial⟩ ?_
        exact ih s400 (x3 + 7) hG_s400 trivial ⟨by omega, by omega⟩ J_s400 T0_s400 S1_s400  (by omega)
      · rw [c5]
        refine x_B k231_33 rfl (fun _ => rfl) (fun _ => rfl) (fun _ _ => rfl) ?_
        show xe (some (N, xs)) 231 1161 [(0, .ref 2000), (1, .ref 0), (2, .ref 256), (3, vi x3)] [] s 295 10442 _
        refine x_A k231_1161 (fun _ => rfl) ?_
        refine x_A k231_1162 (fun _ => rfl) ?_
        refine x_A k231_1163 (fun _ => rfl) ?_
        refine x_A k231_1164 (fun _ => rfl) ?_
        refine x_iadd k231_1165 ?_
        refine x_top (fun z403 e_z403 => ?_)
        refine x_scr k231_1166 hN ⟨by omega, by omega⟩ (fun z404 g_z404 e_z404 => ?_)
        unfold in32 at g_z404
        refine x_A k231_1167 (fun _ => rfl) ?_
        refine x_A k231_1168 (fun _ => rfl) ?_
        refine x_A k231_1169 (fun _ => rfl) ?_
        refine x_iadd k231_1170 ?_
        refine x_top (fun z405 e_z405 => ?_)
        refine x_scr k231_1171 hN ⟨by omega, by omega⟩ (fun z406 g_z406 e_z406 => ?_)
        unfold in32 at g_z406
        refine x_A k231_1172 (fun _ => rfl) ?_
        refine x_A k231_1173 (fun _ => rfl) ?_
        refine x_A k231_1174 (fun _ => rfl) ?_
        refine x_iadd k231_1175 ?_
        refine x_top (fun z407 e_z407 => ?_)
        refine x_scr k231_1176 hN ⟨by omega, by omega⟩ (fun z408 g_z408 e_z408 => ?_)
        unfold in32 at g_z408
        obtain ⟨z409, e_z409⟩ : ∃ z, z = s 231 3 := ⟨_, rfl⟩
        have g_z409 : (0 : Int) ≤ s 231 3 ∧ s 231 3 ≤ 4 := hG 231 3
        obtain ⟨z410, e_z410⟩ : ∃ z, z = s 1 4 := ⟨_, rfl⟩
        have g_z410 : (1 : Int) ≤ s 1 4 ∧ s 1 4 ≤ 40 := hG 1 4
        refine x_callV k231_1177 (y := 118) (n := 3) (w0 := 0) (w1 := 3) (as := [vi z404, vi z406, vi z408]) (rest := []) (by decide +kernel) (q := 0) (nq := 12) (kq := 3) ⟨by decide, rfl⟩ rfl rfl rfl rfl (xe_mono (E_X10_moment_0 s hG z404 ⟨by omega, by omega⟩ z406 ⟨by omega, by omega⟩ z408 ⟨by omega, by omega⟩ ⟨by omega, by omega⟩ ⟨by omega, by omega⟩) ?_)
        rintro s412 v ⟨hG_s412, t_s412, z411, rfl, g_z411, xp_z411⟩
        have q413 : s412 231 3 = z409 := (t_s412 231 3 (show 2884 ∉ [2944, 3072, 3200] from by decide)).trans e_z409.symm
        have q414 : s412 1 4 = z410 := (t_s412 1 4 (show 69 ∉ [2944, 3072, 3200] from by decide)).trans e_z410.symm
        have J_s412 : J s412 := J.fl i_J t_s412 (by decide)
        have T0_s412 : T0 s412 := T0.fl i_T0 t_s412 (by decide)
        show xe (some (N, xs)) 231 1180 [(0, .ref 2000), (1, .ref 0), (2, .ref 256), (3, vi x3)] [vi z411] s412 295 10442 _
        refine x_A k231_1180 (fun _ => rfl) ?_
        refine x_A k231_1181 (fun _ => rfl) ?_
        refine x_A k231_1182 (fun _ => rfl) ?_
        refine x_A k231_1183 (fun _ => rfl) ?_
        refine x_iadd k231_1184 ?_
        refine x_top (fun z415 e_z415 => ?_)
        refine x_scr k231_1185 hN ⟨by omega, by omega⟩ (fun z416 g_z416 e_z416 => ?_)
        unfold in32 at g_z416
        have q_z416 : z416 = z404 := by rw [e_z416, e_z404, show z415 = z403 by omega]
        refine x_A k231_1186 (fun _ => rfl) ?_
        refine x_A k231_1187 (fun _ => rfl) ?_
        refine x_A k231_1188 (fun _ => rfl) ?_
        refine x_iadd k231_1189 ?_
        refine x_top (fun z417 e_z417 => ?_)
        refine x_scr k231_1190 hN ⟨by omega, by omega⟩ (fun z418 g_z418 e_z418 => ?_)
        unfold in32 at g_z418
        have q_z418 : z418 = z406 := by rw [e_z418, e_z406, show z417 = z405 by omega]
        refine x_A k231_1191 (fun _ => rfl) ?_
        refine x_A k231_1192 (fun _ => rfl) ?_
        refine x_A k231_1193 (fun _ => rfl) ?_
        refine x_iadd k231_1194 ?_
        refine x_top (fun z419 e_z419 => ?_)
        refine x_scr k231_1195 hN ⟨by omega, by omega⟩ (fun z420 g_z420 e_z420 => ?_)
        unfold in32 at g_z420
        have q_z420 : z420 = z408 := by rw [e_z420, e_z408, show z419 = z407 by omega]
        obtain ⟨z421, e_z421⟩ : ∃ z, z = s412 256 58 := ⟨_, rfl⟩
        have g_z421 : (0 : Int) ≤ s412 256 58 ∧ s412 256 58 ≤ 4 := hG_s412 256 58
        obtain ⟨z422, e_z422⟩ : ∃ z, z = s412 256 1 := ⟨_, rfl⟩
        have g_z422 : (1 : Int) ≤ s412 256 1 ∧ s412 256 1 ≤ 40 := hG_s412 256 1
        refine x_callV k231_1196 (y := 216) (n := 3) (w0 := 1) (w1 := 3) (as := [vi z416, vi z418, vi z420]) (rest := [vi z411]) (by decide +kernel) (q := 256) (nq := 62) (kq := 15) ⟨by decide, rfl⟩ rfl rfl rfl rfl (xe_mono (E_X11_moment_256 s412 hG_s412 z416 ⟨by omega, by omega⟩ z418 ⟨by omega, by omega⟩ z420 ⟨by omega, by omega⟩ ⟨by omega, by omega⟩ ⟨by omega, by omega⟩) ?_)
        rintro s424 v ⟨hG_s424, t_s424, z423, rfl, g_z423, xp_z423⟩
        have q425 : s424 231 3 = z409 := (t_s424 231 3 (show 2884 ∉ [6400, 6464, 6528] from by decide)).trans q413
        have q426 : s424 1 4 = z410 := (t_s424 1 4 (show 69 ∉ [6400, 6464, 6528] from by decide)).trans q414
        have q427 : s424 256 58 = z421 := (t_s424 256 58 (show 4155 ∉ [6400, 6464, 6528] from by decide)).trans e_z421.symm
        have q428 : s424 256 1 = z422 := (t_s424 256 1 (show 4098 ∉ [6400, 6464, 6528] from by decide)).trans e_z422.symm
        have J_s424 : J s424 := J.fl J_s412 t_s424 (by decide)
        have T0_s424 : T0 s424 := T0.fl T0_s412 t_s424 (by decide)
        show xe (some (N, xs)) 231 1199 [(0, .ref 2000), (1, .ref 0), (2, .ref 256), (3, vi x3)] [vi z423, vi z411] s424 295 10442 _
        obtain ⟨ez_s424, S1_s424⟩ := S1.moment i_S1 i_T0.2.1 hG t_s412 t_s424 (by decide) (by decide) xp_z411 (by rw [← q_z416, ← q_z418, ← q_z420]; exact xp_z423)
        refine x_ic_eq k231_1199 (t := 1300) rfl ⟨by omega, by omega⟩ ⟨by omega, by omega⟩ (fun c429 => ?_) (fun c429 => ?_)
        · skip
          refine x_iinc k231_1300 (ls' := [(3, vi (x3 + 7)), (0, .ref 2000), (1, .ref 0), (2, .ref 256)]) rfl (by decide) rfl ?_
          refine x_goto k231_1303 (t := 18) rfl ?_
          refine x_ls (l := [(0, .ref 2000), (1, .ref 0), (2, .ref 256), (3, vi (x3 + 7))]) (show ([0, 1, 2, 3] : List Nat).Nodup from by decide) ⟨rfl, rfl, rfl, rfl, trivial⟩ ?_
          exact ih s424 (x3 + 7) hG_s424 trivial ⟨by omega, by omega⟩ J_s424 T0_s424 S1_s424  (by omega)
        · skip
          refine x_A k231_1202 (fun _ => rfl) ?_
          exfalso; omega
      · rw [c5]
        refine x_B k231_33 rfl (fun _ => rfl) (fun _ => rfl) (fun _ _ => rfl) ?_
        show xe (some (N, xs)) 231 1204 [(0, .ref 2000), (1, .ref 0), (2, .ref 256), (3, vi x3)] [] s 295 10442 _
        refine x_A k231_1204 (fun _ => rfl) ?_
        refine x_A k231_1205 (fun _ => rfl) ?_
        refine x_A k231_1206 (fun _ => rfl) ?_
        refine x_A k231_1207 (fun _ => rfl) ?_
        refine x_iadd k231_1208 ?_
        refine x_top (fun z430 e_z430 => ?_)
        refine x_scr k231_1209 hN ⟨by omega, by omega⟩ (fun z431 g_z431 e_z431 => ?_)
        unfold in32 at g_z431
        refine x_A k231_1210 (fun _ => rfl) ?_
        refine x_A k231_1211 (fun _ => rfl) ?_
        refine x_A k231_1212 (fun _ => rfl) ?_
        refine x_iadd k231_1213 ?_
        refine x_top (fun z432 e_z432 => ?_)
        refine x_scr k231_1214 hN ⟨by omega, by omega⟩ (fun z433 g_z433 e_z433 => ?_)
        unfold in32 at g_z433
        refine x_A k231_1215 (fun _ => rfl) ?_
        refine x_A k231_1216 (fun _ => rfl) ?_
        refine x_A k231_1217 (fun _ => rfl) ?_
        refine x_iadd k231_1218 ?_
        refine x_top (fun z434 e_z434 => ?_)
        refine x_scr k231_1219 hN ⟨by omega, by omega⟩ (fun z435 g_z435 e_z435 => ?_)
        unfold in32 at g_z435
        refine x_A k231_1220 (fun _ => rfl) ?_
        refine x_A k231_1221 (fun _ => rfl) ?_
        refine x_A k231_1222 (fun _ => rfl) ?_
        refine x_iadd k231_1223 ?_
        refine x_top (fun z436 e_z436 => ?_)
        refine x_scr k231_1224 hN ⟨by omega, by omega⟩ (fun z437 g_z437 e_z437 => ?_)
        unfold in32 at g_z437
        refine x_callV k231_1225 (y := 119) (n := 4) (w0 := 0) (w1 := 4) (as := [vi z431, vi z433, vi z435, vi z437]) (rest := []) (by decide +kernel) (q := 0) (nq := 12) (kq := 3) ⟨by decide, rfl⟩ rfl rfl rfl rfl (xe_mono (C_X10_of_0 s hG i_J z431 ⟨by omega, by omega⟩ z433 ⟨by omega, by omega⟩ z435 ⟨by omega, by omega⟩ z437 ⟨by omega, by omega⟩) ?_)
        rintro s439 v ⟨hG_s439, t_s439, z438, rfl, g_z438⟩
        have J_s439 : J s439 := J.fl i_J t_s439 (by decide)
        have T0_s439 : T0 s439 := T0.fl i_T0 t_s439 (by decide)
        have S1_s439 : S1 s439 := S1.fl i_S1 t_s439 (by decide)
        show xe (some (N, xs)) 231 1228 [(0, .ref 2000), (1, .ref 0), (2, .ref 256), (3, vi x3)] [vi z438] s439 295 10442 _
        refine x_A k231_1228 (fun _ => rfl) ?_
        refine x_A k231_1229 (fun _ => rfl) ?_
        refine x_A k231_1230 (fun _ => rfl) ?_
        refine x_A k231_1231 (fun _ => rfl) ?_
        refine x_A k231_1232 (fun _ => rfl) ?_
        refine x_iadd k231_1233 ?_
        refine x_top (fun z440 e_z440 => ?_)
        refine x_scr k231_1234 hN ⟨by omega, by omega⟩ (fun z441 g_z441 e_z441 => ?_)
        unfold in32 at g_z441
        have q_z441 : z441 = z431 := by rw [e_z441, e_z431, show z440 = z430 by omega]
        refine x_A k231_1235 (fun _ => rfl) ?_
        refine x_A k231_1236 (fun _ => rfl) ?_
        refine x_A k231_1237 (fun _ => rfl) ?_
        refine x_iadd k231_1238 ?_
        refine x_top (fun z442 e_z442 => ?_)
        refine x_scr k231_1239 hN ⟨by omega, by omega⟩ (fun z443 g_z443 e_z443 => ?_)
        unfold in32 at g_z443
        have q_z443 : z443 = z433 := by rw [e_z443, e_z433, show z442 = z432 by omega]
        refine x_A k231_1240 (fun _ => rfl) ?_
        refine x_A k231_1241 (fun _ => rfl) ?_
        refine x_A k231_1242 (fun _ => rfl) ?_
        refine x_iadd k231_1243 ?_
        refine x_top (fun z444 e_z444 => ?_)
        refine x_scr k231_1244 hN ⟨by omega, by omega⟩ (fun z445 g_z445 e_z445 => ?_)
        unfold in32 at g_z445
        have q_z445 : z445 = z435 := by rw [e_z445, e_z435, show z444 = z434 by omega]
        refine x_A k231_1245 (fun _ => rfl) ?_
        refine x_A k231_1246 (fun _ => rfl) ?_
        refine x_A k231_1247 (fun _ => rfl) ?_
        refine x_iadd k231_1248 ?_
        refine x_top (fun z446 e_z446 => ?_)
        refine x_scr k231_1249 hN ⟨by omega, by omega⟩ (fun z447 g_z447 e_z447 => ?_)
        unfold in32 at g_z447
        have q_z447 : z447 = z437 := by rw [e_z447, e_z437, show z446 = z436 by omega]
        refine x_callV k231_1250 (y := 217) (n := 4) (w0 := 0) (w1 := 4) (as := [vi z441, vi z443, vi z445, vi z447]) (rest := []) (by decide +kernel) (q := 256) (nq := 62) (kq := 15) ⟨by decide, rfl⟩ rfl rfl rfl rfl (xe_mono (C_X11_of_256 s439 hG_s439 J_s439 z441 ⟨by omega, by omega⟩ z443 ⟨by omega, by omega⟩ z445 ⟨by omega, by omega⟩ z447 ⟨by omega, by omega⟩) ?_)
        rintro s449 v ⟨hG_s449, t_s449, z448, rfl, g_z448⟩
        have J_s449 : J s449 := J.fl J_s439 t_s449 (by decide)
        have T0_s449 : T0 s449 := T0.fl T0_s439 t_s449 (by decide)
        have S1_s449 : S1 s449 := S1.fl S1_s439 t_s449 (by decide)
        show xe (some (N, xs)) 231 1253 [(0, .ref 2000), (1, .ref 0), (2, .ref 256), (3, vi x3)] [vi z448] s449 295 10442 _
        refine x_A k231_1253 (fun _ => rfl) ?_
        refine x_goto k231_1254 (t := 1300) rfl ?_
        refine x_iinc k231_1300 (ls' := [(3, vi (x3 + 7)), (0, .ref 2000), (1, .ref 0), (2, .ref 256)]) rfl (by decide) rfl ?_
        refine x_goto k231_1303 (t := 18) rfl ?_
        refine x_ls (l := [(0, .ref 2000), (1, .ref 0), (2, .ref 256), (3, vi (x3 + 7))]) (show ([0, 1, 2, 3] : List Nat).Nodup from by decide) ⟨rfl, rfl, rfl, rfl, trivial⟩ ?_
        exact ih s449 (x3 + 7) hG_s449 trivial ⟨by omega, by omega⟩ J_s449 T0_s449 S1_s449  (by omega)
      · rw [c5]
        refine x_B k231_33 rfl (fun _ => rfl) (fun _ => rfl) (fun _ _ => rfl) ?_
        show xe (some (N, xs)) 231 1257 [(0, .ref 2000), (1, .ref 0), (2, .ref 256), (3, vi x3)] [] s 295 10442 _
        refine x_A k231_1257 (fun _ => rfl) ?_
        refine x_A k231_1258 (fun _ => rfl) ?_
        refine x_A k231_1259 (fun _ => rfl) ?_
        refine x_A k231_1260 (fun _ => rfl) ?_
        refine x_iadd k231_1261 ?_
        refine x_top (fun z450 e_z450 => ?_)
        refine x_scr k231_1262 hN ⟨by omega, by omega⟩ (fun z451 g_z451 e_z451 => ?_)
        unfold in32 at g_z451
        refine x_A k231_1263 (fun _ => rfl) ?_
        refine x_A k231_1264 (fun _ => rfl) ?_
        refine x_A k231_1265 (fun _ => rfl) ?_
        refine x_iadd k231_1266 ?_
        refine x_top (fun z452 e_z452 => ?_)
        refine x_scr k231_1267 hN ⟨by omega, by omega⟩ (fun z453 g_z453 e_z453 => ?_)
        unfold in32 at g_z453
        refine x_A k231_1268 (fun _ => rfl) ?_
        refine x_A k231_1269 (fun _ => rfl) ?_
        refine x_A k231_1270 (fun _ => rfl) ?_
        refine x_iadd k231_1271 ?_
        refine x_top (fun z454 e_z454 => ?_)
        refine x_scr k231_1272 hN ⟨by omega, by omega⟩ (fun z455 g_z455 e_z455 => ?_)
        unfold in32 at g_z455
        refine x_callV k231_1273 (y := 120) (n := 3) (w0 := 0) (w1 := 3) (as := [vi z451, vi z453, vi z455]) (rest := []) (by decide +kernel) (q := 0) (nq := 12) (kq := 3) ⟨by decide, rfl⟩ rfl rfl rfl rfl (xe_mono (C_X10_split_0 s hG i_J z451 ⟨by omega, by omega⟩ z453 ⟨by omega, by omega⟩ z455 ⟨by omega, by omega⟩) ?_)
        rintro s457 v ⟨hG_s457, t_s457, z456, rfl, g_z456⟩
        have J_s457 : J s457 := J.fl i_J t_s457 (by decide)
        have T0_s457 : T0 s457 := T0.fl i_T0 t_s457 (by decide)
        have S1_s457 : S1 s457 := S1.fl i_S1 t_s457 (by decide)
        show xe (some (N, xs)) 231 1276 [(0, .ref 2000), (1, .ref 0), (2, .ref 256), (3, vi x3)] [vi z456] s457 295 10442 _
        refine x_A k231_1276 (fun _ => rfl) ?_
        refine x_A k231_1277 (fun _ => rfl) ?_
        refine x_A k231_1278 (fun _ => rfl) ?_
        refine x_A k231_1279 (fun _ => rfl) ?_
        refine x_A k231_1280 (fun _ => rfl) ?_
        refine x_iadd k231_1281 ?_
        refine x_top (fun z458 e_z458 => ?_)
        refine x_scr k231_1282 hN ⟨by omega, by omega⟩ (fun z459 g_z459 e_z459 => ?_)
        unfold in32 at g_z459
        have q_z459 : z459 = z451 := by rw [e_z459, e_z451, show z458 = z450 by omega]
        refine x_A k231_1283 (fun _ => rfl) ?_
        refine x_A k231_1284 (fun _ => rfl) ?_
        refine x_A k231_1285 (fun _ => rfl) ?_
        refine x_iadd k231_1286 ?_
        refine x_top (fun z460 e_z460 => ?_)
        refine x_scr k231_1287 hN ⟨by omega, by omega⟩ (fun z461 g_z461 e_z461 => ?_)
        unfold in32 at g_z461
        have q_z461 : z461 = z453 := by rw [e_z461, e_z453, show z460 = z452 by omega]
        refine x_A k231_1288 (fun _ => rfl) ?_
        refine x_A k231_1289 (fun _ => rfl) ?_
        refine x_A k231_1290 (fun _ => rfl) ?_
        refine x_iadd k231_1291 ?_
        refine x_top (fun z462 e_z462 => ?_)
        refine x_scr k231_1292 hN ⟨by omega, by omega⟩ (fun z463 g_z463 e_z463 => ?_)
        unfold in32 at g_z463
        have q_z463 : z463 = z455 := by rw [e_z463, e_z455, show z462 = z454 by omega]
        refine x_callV k231_1293 (y := 218) (n := 3) (w0 := 0) (w1 := 3) (as := [vi z459, vi z461, vi z463]) (rest := []) (by decide +kernel) (q := 256) (nq := 62) (kq := 15) ⟨by decide, rfl⟩ rfl rfl rfl rfl (xe_mono (C_X11_split_256 s457 hG_s457 J_s457 z459 ⟨by omega, by omega⟩ z461 ⟨by omega, by omega⟩ z463 ⟨by omega, by omega⟩) ?_)
        rintro s465 v ⟨hG_s465, t_s465, z464, rfl, g_z464⟩
        have J_s465 : J s465 := J.fl J_s457 t_s465 (by decide)
        have T0_s465 : T0 s465 := T0.fl T0_s457 t_s465 (by decide)
        have S1_s465 : S1 s465 := S1.fl S1_s457 t_s465 (by decide)
        show xe (some (N, xs)) 231 1296 [(0, .ref 2000), (1, .ref 0), (2, .ref 256), (3, vi x3)] [vi z464] s465 295 10442 _
        refine x_A k231_1296 (fun _ => rfl) ?_
        refine x_goto k231_1297 (t := 1300) rfl ?_
        refine x_iinc k231_1300 (ls' := [(3, vi (x3 + 7)), (0, .ref 2000), (1, .ref 0), (2, .ref 256)]) rfl (by decide) rfl ?_
        refine x_goto k231_1303 (t := 18) rfl ?_
        refine x_ls (l := [(0, .ref 2000), (1, .ref 0), (2, .ref 256), (3, vi (x3 + 7))]) (show ([0, 1, 2, 3] : List Nat).Nodup from by decide) ⟨rfl, rfl, rfl, rfl, trivial⟩ ?_
        exact ih s465 (x3 + 7) hG_s465 trivial ⟨by omega, by omega⟩ J_s465 T0_s465 S1_s465  (by omega)
      · refine x_tabD k231_33 ⟨by omega, by omega⟩ c5 (t0 := 1300) rfl ?_
        refine x_iinc k231_1300 (ls' := [(3, vi (x3 + 7)), (0, .ref 2000), (1, .ref 0), (2, .ref 256)]) rfl (by decide) rfl ?_
        refine x_goto k231_1303 (t := 18) rfl ?_
        refine x_ls (l := [(0, .ref 2000), (1, .ref 0), (2, .ref 256), (3, vi (x3 + 7))]) (show ([0, 1, 2, 3] : List Nat).Nodup from by decide) ⟨rfl, rfl, rfl, rfl, trivial⟩ ?_
        exact ih s (x3 + 7) hG f ⟨by omega, by omega⟩ i_J i_T0 i_S1  (by omega)
