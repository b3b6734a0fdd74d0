set_option maxHeartbeats 8000000 in
theorem law_loop (N : Nat) (xs : Nat → Int32) (hN : N ≤ 3584)  : ∀ (n : Nat) (s : xS) (x3 : Int) (x1000 : Int) (x1001 : Int) (hG : GI s) (f : True) (b_x3 : 0 ≤ x3 ∧ x3 ≤ 3584) (b_x1000 : 0 ≤ x1000 ∧ x1000 ≤ 4) (b_x1001 : 0 ≤ x1001 ∧ x1001 ≤ 4) (w_0 : x1000 = x1001) (e_x1000 : x1000 = s 231 3) (e_x1001 : x1001 = s 256 58) (i_J : J s)  (hm : (3584 - x3) < (n : Int)), xe (some (N, xs)) 231 18 [(0, .ref 2000), (1, .ref 0), (2, .ref 256), (3, vi x3)] [] s 295 10442 (fun _ v => v = some (vi 1)) := by
  intro n
  induction n with
  | zero => intro s x3 x1000 x1001 hG f b_x3 b_x1000 b_x1001 w_0 e_x1000 e_x1001 i_J  hm; exfalso; omega
  | succ n ih =>
    intro s x3 x1000 x1001 hG f b_x3 b_x1000 b_x1001 w_0 e_x1000 e_x1001 i_J  hm
    refine x_A k231_18 (fun _ => rfl) ?_
    refine x_A k231_19 (fun _ => rfl) ?_
    refine x_slen k231_20 ?_
    refine x_bipush k231_21 (by decide +kernel) ?_
    refine x_isub k231_23 ?_
    refine x_top (fun z1 e_z1 => ?_)
    refine x_ic_gt k231_24 (t := 1306) rfl (by first | exact x_rb b_x3 rfl rfl | exact ⟨by omega, by omega⟩) (by first | exact x_rbe e_z1 g_z1 rfl rfl | exact x_rb g_z1 rfl rfl | exact ⟨by omega, by omega⟩) (fun c2 => ?_) (fun c2 => ?_)
    · skip
      refine x_A k231_1306 (fun _ => rfl) ?_
      exact x_zret k231_1307 rfl ⟨by omega, by omega⟩ rfl
    · skip
      refine x_A k231_27 (fun _ => rfl) ?_
      refine x_A k231_28 (fun _ => rfl) ?_
      refine x_scr k231_29 hN ⟨by omega, by omega⟩ (fun z3 g_z3 e_z3 => ?_)
      unfold in32 at g_z3
      refine x_bipush k231_30 (by decide +kernel) ?_
      refine x_and_mask k231_32 ⟨by omega, by omega⟩ (fun z4 g_z4 => ?_)
      have c5 : z4 = 0 ∨ z4 = 1 ∨ z4 = 2 ∨ z4 = 3 ∨ z4 = 4 ∨ z4 = 5 ∨ z4 = 6 ∨ z4 = 7 ∨ z4 = 8 ∨ z4 = 9 ∨ z4 = 10 ∨ z4 = 11 ∨ z4 = 12 ∨ z4 = 13 ∨ z4 = 14 ∨ z4 = 15 ∨ z4 = 16 ∨ z4 = 17 ∨ z4 = 18 ∨ z4 = 19 ∨ z4 = 20 ∨ z4 = 21 ∨ z4 = 22 ∨ z4 = 23 ∨ z4 = 24 ∨ z4 = 25 ∨ z4 = 26 ∨ z4 = 27 ∨ z4 = 28 ∨ z4 = 29 ∨ ¬ (0 ≤ z4 ∧ z4 ≤ 29) := by omega
      rcases c5 with c5 | c5 | c5 | c5 | c5 | c5 | c5 | c5 | c5 | c5 | c5 | c5 | c5 | c5 | c5 | c5 | c5 | c5 | c5 | c5 | c5 | c5 | c5 | c5 | c5 | c5 | c5 | c5 | c5 | c5 | c5
      · rw [c5]
        refine x_B k231_33 rfl (fun _ => rfl) (fun _ => rfl) (fun _ _ => rfl) ?_
        show xe (some (N, xs)) 231 168 [(0, .ref 2000), (1, .ref 0), (2, .ref 256), (3, vi x3)] [] s 295 10442 _
        refine x_A k231_168 (fun _ => rfl) ?_
        refine x_callV k231_169 (y := 91) (n := 0) (w0 := 0) (w1 := 0) (as := []) (rest := []) (by decide +kernel) (q := 0) (nq := 12) (kq := 3) ⟨by decide, rfl⟩ rfl rfl rfl rfl (xe_mono (C_X10_edition_0 s hG) ?_)
        rintro s7 v ⟨hG_s7, t_s7, z6, rfl, g_z6, xp_z6⟩
        have q8 : s7 231 3 = x1000 := (t_s7 231 3 (show 2884 ∉ [11] from by decide +kernel)).trans e_x1000.symm
        have q9 : s7 256 58 = x1001 := (t_s7 256 58 (show 4155 ∉ [11] from by decide +kernel)).trans e_x1001.symm
        have J_s7 : J s7 := J.fl i_J t_s7 (by decide +kernel)
        obtain ⟨z10, e_z10⟩ : ∃ z, z = s7 0 10 := ⟨_, rfl⟩
        have g_z10 : (0 : Int) ≤ s7 0 10 ∧ s7 0 10 ≤ 9 := hG_s7 0 10
        show xe (some (N, xs)) 231 172 [(0, .ref 2000), (1, .ref 0), (2, .ref 256), (3, vi x3)] [vi z6] s7 295 10442 _
        refine x_A k231_172 (fun _ => rfl) ?_
        refine x_A k231_173 (fun _ => rfl) ?_
        refine x_callV k231_174 (y := 145) (n := 0) (w0 := 0) (w1 := 0) (as := []) (rest := []) (by decide +kernel) (q := 256) (nq := 62) (kq := 15) ⟨by decide, rfl⟩ rfl rfl rfl rfl (xe_mono (D_X11_edition_256 s7 hG_s7 J_s7) ?_)
        rintro s12 v ⟨hG_s12, t_s12, z11, rfl, g_z11, xp_z11, J_s12⟩
        have q13 : s12 231 3 = x1000 := (t_s12 231 3 (show 2884 ∉ [4097] from by decide +kernel)).trans q8
        have q14 : s12 256 58 = x1001 := (t_s12 256 58 (show 4155 ∉ [4097] from by decide +kernel)).trans q9
        have q15 : s12 0 10 = z10 := (t_s12 0 10 (show 11 ∉ [4097] from by decide +kernel)).trans e_z10.symm
        obtain ⟨z16, e_z16⟩ : ∃ z, z = s12 256 0 := ⟨_, rfl⟩
        have g_z16 : (0 : Int) ≤ s12 256 0 ∧ s12 256 0 ≤ 9 := hG_s12 256 0
        show xe (some (N, xs)) 231 177 [(0, .ref 2000), (1, .ref 0), (2, .ref 256), (3, vi x3)] [vi z11] s12 295 10442 _
        refine x_A k231_177 (fun _ => rfl) ?_
        refine x_goto k231_178 (t := 1300) rfl ?_
        refine x_iinc k231_1300 (ls' := [(3, vi (x3 + 7)), (0, .ref 2000), (1, .ref 0), (2, .ref 256)]) rfl (by decide) rfl ?_
        refine x_goto k231_1303 (t := 18) rfl ?_
        refine x_ls (l := [(0, .ref 2000), (1, .ref 0), (2, .ref 256), (3, vi (x3 + 7))]) (show ([0, 1, 2, 3] : List Nat).Nodup from by decide +kernel) ⟨rfl, rfl, rfl, rfl, trivial⟩ ?_
        exact ih s12 (x3 + 7) x1000 x1001 hG_s12 trivial ⟨by omega, by omega⟩ (by first | exact x_rb b_x1000 rfl rfl | exact ⟨by omega, by omega⟩) (by first | exact x_rb b_x1001 rfl rfl | exact ⟨by omega, by omega⟩) (by omega) (q13).symm (q14).symm J_s12  (by omega)
      · rw [c5]
        refine x_B k231_33 rfl (fun _ => rfl) (fun _ => rfl) (fun _ _ => rfl) ?_
        show xe (some (N, xs)) 231 181 [(0, .ref 2000), (1, .ref 0), (2, .ref 256), (3, vi x3)] [] s 295 10442 _
        refine x_A k231_181 (fun _ => rfl) ?_
        refine x_A k231_182 (fun _ => rfl) ?_
        refine x_A k231_183 (fun _ => rfl) ?_
        refine x_A k231_184 (fun _ => rfl) ?_
        refine x_iadd k231_185 ?_
        refine x_top (fun z17 e_z17 => ?_)
        refine x_scr k231_186 hN ⟨by omega, by omega⟩ (fun z18 g_z18 e_z18 => ?_)
        unfold in32 at g_z18
        refine x_callV k231_187 (y := 92) (n := 1) (w0 := 0) (w1 := 1) (as := [vi z18]) (rest := []) (by decide +kernel) (q := 0) (nq := 12) (kq := 3) ⟨by decide, rfl⟩ rfl rfl rfl rfl (xe_mono (C_X10_mark_0 s hG z18 (by first | exact x_rbe e_z18 g_z18 rfl rfl | exact x_rb g_z18 rfl rfl | exact ⟨by omega, by omega⟩)) ?_)
        rintro s20 v ⟨hG_s20, t_s20, z19, rfl, g_z19⟩
        have q21 : s20 231 3 = x1000 := (t_s20 231 3 (show 2884 ∉ [69, 128, 384, 3276, 3277] from by decide +kernel)).trans e_x1000.symm
        have q22 : s20 256 58 = x1001 := (t_s20 256 58 (show 4155 ∉ [69, 128, 384, 3276, 3277] from by decide +kernel)).trans e_x1001.symm
        have J_s20 : J s20 := J.fl i_J t_s20 (by decide +kernel)
        show xe (some (N, xs)) 231 190 [(0, .ref 2000), (1, .ref 0), (2, .ref 256), (3, vi x3)] [vi z19] s20 295 10442 _
        refine x_A k231_190 (fun _ => rfl) ?_
        refine x_A k231_191 (fun _ => rfl) ?_
        refine x_A k231_192 (fun _ => rfl) ?_
        refine x_A k231_193 (fun _ => rfl) ?_
        refine x_A k231_194 (fun _ => rfl) ?_
        refine x_iadd k231_195 ?_
        refine x_top (fun z23 e_z23 => ?_)
        refine x_scr k231_196 hN ⟨by omega, by omega⟩ (fun z24 g_z24 e_z24 => ?_)
        unfold in32 at g_z24
        have q_z24 : z24 = z18 := by rw [e_z24, e_z18, show z23 = z17 by omega]
        refine x_callV k231_197 (y := 146) (n := 1) (w0 := 0) (w1 := 1) (as := [vi z24]) (rest := []) (by decide +kernel) (q := 256) (nq := 62) (kq := 15) ⟨by decide, rfl⟩ rfl rfl rfl rfl (xe_mono (D_X11_mark_256 s20 hG_s20 z24 (by first | exact x_rbe e_z24 g_z24 rfl rfl | exact x_rb g_z24 rfl rfl | exact ⟨by omega, by omega⟩) J_s20) ?_)
        rintro s26 v ⟨hG_s26, t_s26, z25, rfl, g_z25, J_s26⟩
        have q27 : s26 231 3 = x1000 := (t_s26 231 3 (show 2884 ∉ [4098, 4160, 4224, 4288, 4352] from by decide +kernel)).trans q21
        have q28 : s26 256 58 = x1001 := (t_s26 256 58 (show 4155 ∉ [4098, 4160, 4224, 4288, 4352] from by decide +kernel)).trans q22
        show xe (some (N, xs)) 231 200 [(0, .ref 2000), (1, .ref 0), (2, .ref 256), (3, vi x3)] [vi z25] s26 295 10442 _
        refine x_A k231_200 (fun _ => rfl) ?_
        refine x_goto k231_201 (t := 1300) rfl ?_
        refine x_iinc k231_1300 (ls' := [(3, vi (x3 + 7)), (0, .ref 2000), (1, .ref 0), (2, .ref 256)]) rfl (by decide) rfl ?_
        refine x_goto k231_1303 (t := 18) rfl ?_
        refine x_ls (l := [(0, .ref 2000), (1, .ref 0), (2, .ref 256), (3, vi (x3 + 7))]) (show ([0, 1, 2, 3] : List Nat).Nodup from by decide +kernel) ⟨rfl, rfl, rfl, rfl, trivial⟩ ?_
        exact ih s26 (x3 + 7) x1000 x1001 hG_s26 trivial ⟨by omega, by omega⟩ (by first | exact x_rb b_x1000 rfl rfl | exact ⟨by omega, by omega⟩) (by first | exact x_rb b_x1001 rfl rfl | exact ⟨by omega, by omega⟩) (by omega) (q27).symm (q28).symm J_s26  (by omega)
      · rw [c5]
        refine x_B k231_33 rfl (fun _ => rfl) (fun _ => rfl) (fun _ _ => rfl) ?_
        show xe (some (N, xs)) 231 204 [(0, .ref 2000), (1, .ref 0), (2, .ref 256), (3, vi x3)] [] s 295 10442 _
        refine x_A k231_204 (fun _ => rfl) ?_
        refine x_A k231_205 (fun _ => rfl) ?_
        refine x_A k231_206 (fun _ => rfl) ?_
        refine x_A k231_207 (fun _ => rfl) ?_
        refine x_iadd k231_208 ?_
        refine x_top (fun z29 e_z29 => ?_)
        refine x_scr k231_209 hN ⟨by omega, by omega⟩ (fun z30 g_z30 e_z30 => ?_)
        unfold in32 at g_z30
        refine x_A k231_210 (fun _ => rfl) ?_
        refine x_A k231_211 (fun _ => rfl) ?_
        refine x_A k231_212 (fun _ => rfl) ?_
        refine x_iadd k231_213 ?_
        refine x_top (fun z31 e_z31 => ?_)
        refine x_scr k231_214 hN ⟨by omega, by omega⟩ (fun z32 g_z32 e_z32 => ?_)
        unfold in32 at g_z32
        refine x_callV k231_215 (y := 93) (n := 2) (w0 := 0) (w1 := 2) (as := [vi z30, vi z32]) (rest := []) (by decide +kernel) (q := 0) (nq := 12) (kq := 3) ⟨by decide, rfl⟩ rfl rfl rfl rfl (xe_mono (C_X10_move_0 s hG z30 (by first | exact x_rbe e_z30 g_z30 rfl rfl | exact x_rb g_z30 rfl rfl | exact ⟨by omega, by omega⟩) z32 (by first | exact x_rbe e_z32 g_z32 rfl rfl | exact x_rb g_z32 rfl rfl | exact ⟨by omega, by omega⟩)) ?_)
        rintro s34 v ⟨hG_s34, t_s34, z33, rfl, g_z33⟩
        have q35 : s34 231 3 = x1000 := (t_s34 231 3 (show 2884 ∉ [384, 3276, 3277] from by decide +kernel)).trans e_x1000.symm
        have q36 : s34 256 58 = x1001 := (t_s34 256 58 (show 4155 ∉ [384, 3276, 3277] from by decide +kernel)).trans e_x1001.symm
        have J_s34 : J s34 := J.fl i_J t_s34 (by decide +kernel)
        show xe (some (N, xs)) 231 218 [(0, .ref 2000), (1, .ref 0), (2, .ref 256), (3, vi x3)] [vi z33] s34 295 10442 _
        refine x_A k231_218 (fun _ => rfl) ?_
        refine x_A k231_219 (fun _ => rfl) ?_
        refine x_A k231_220 (fun _ => rfl) ?_
        refine x_A k231_221 (fun _ => rfl) ?_
        refine x_A k231_222 (fun _ => rfl) ?_
        refine x_iadd k231_223 ?_
        refine x_top (fun z37 e_z37 => ?_)
        refine x_scr k231_224 hN ⟨by omega, by omega⟩ (fun z38 g_z38 e_z38 => ?_)
        unfold in32 at g_z38
        have q_z38 : z38 = z30 := by rw [e_z38, e_z30, show z37 = z29 by omega]
        refine x_A k231_225 (fun _ => rfl) ?_
        refine x_A k231_226 (fun _ => rfl) ?_
        refine x_A k231_227 (fun _ => rfl) ?_
        refine x_iadd k231_228 ?_
        refine x_top (fun z39 e_z39 => ?_)
        refine x_scr k231_229 hN ⟨by omega, by omega⟩ (fun z40 g_z40 e_z40 => ?_)
        unfold in32 at g_z40
        have q_z40 : z40 = z32 := by rw [e_z40, e_z32, show z39 = z31 by omega]
        refine x_callV k231_230 (y := 147) (n := 2) (w0 := 0) (w1 := 2) (as := [vi z38, vi z40]) (rest := []) (by decide +kernel) (q := 256) (nq := 62) (kq := 15) ⟨by decide, rfl⟩ rfl rfl rfl rfl (xe_mono (D_X11_move_256 s34 hG_s34 z38 (by first | exact x_rbe e_z38 g_z38 rfl rfl | exact x_rb g_z38 rfl rfl | exact ⟨by omega, by omega⟩) z40 (by first | exact x_rbe e_z40 g_z40 rfl rfl | exact x_rb g_z40 rfl rfl | exact ⟨by omega, by omega⟩) J_s34) ?_)
        rintro s42 v ⟨hG_s42, t_s42, z41, rfl, g_z41, J_s42⟩
        have q43 : s42 231 3 = x1000 := (t_s42 231 3 (show 2884 ∉ [4352] from by decide +kernel)).trans q35
        have q44 : s42 256 58 = x1001 := (t_s42 256 58 (show 4155 ∉ [4352] from by decide +kernel)).trans q36
        show xe (some (N, xs)) 231 233 [(0, .ref 2000), (1, .ref 0), (2, .ref 256), (3, vi x3)] [vi z41] s42 295 10442 _
        refine x_A k231_233 (fun _ => rfl) ?_
        refine x_goto k231_234 (t := 1300) rfl ?_
        refine x_iinc k231_1300 (ls' := [(3, vi (x3 + 7)), (0, .ref 2000), (1, .ref 0), (2, .ref 256)]) rfl (by decide) rfl ?_
        refine x_goto k231_1303 (t := 18) rfl ?_
        refine x_ls (l := [(0, .ref 2000), (1, .ref 0), (2, .ref 256), (3, vi (x3 + 7))]) (show ([0, 1, 2, 3] : List Nat).Nodup from by decide +kernel) ⟨rfl, rfl, rfl, rfl, trivial⟩ ?_
        exact ih s42 (x3 + 7) x1000 x1001 hG_s42 trivial ⟨by omega, by omega⟩ (by first | exact x_rb b_x1000 rfl rfl | exact ⟨by omega, by omega⟩) (by first | exact x_rb b_x1001 rfl rfl | exact ⟨by omega, by omega⟩) (by omega) (q43).symm (q44).symm J_s42  (by omega)
      · rw [c5]
        refine x_B k231_33 rfl (fun _ => rfl) (fun _ => rfl) (fun _ _ => rfl) ?_
        show xe (some (N, xs)) 231 237 [(0, .ref 2000), (1, .ref 0), (2, .ref 256), (3, vi x3)] [] s 295 10442 _
        refine x_A k231_237 (fun _ => rfl) ?_
        refine x_A k231_238 (fun _ => rfl) ?_
        refine x_A k231_239 (fun _ => rfl) ?_
        refine x_A k231_240 (fun _ => rfl) ?_
        refine x_iadd k231_241 ?_
        refine x_top (fun z45 e_z45 => ?_)
        refine x_scr k231_242 hN ⟨by omega, by omega⟩ (fun z46 g_z46 e_z46 => ?_)
        unfold in32 at g_z46
        refine x_A k231_243 (fun _ => rfl) ?_
        refine x_A k231_244 (fun _ => rfl) ?_
        refine x_A k231_245 (fun _ => rfl) ?_
        refine x_iadd k231_246 ?_
        refine x_top (fun z47 e_z47 => ?_)
        refine x_scr k231_247 hN ⟨by omega, by omega⟩ (fun z48 g_z48 e_z48 => ?_)
        unfold in32 at g_z48
        refine x_callV k231_248 (y := 94) (n := 2) (w0 := 0) (w1 := 2) (as := [vi z46, vi z48]) (rest := []) (by decide +kernel) (q := 0) (nq := 12) (kq := 3) ⟨by decide, rfl⟩ rfl rfl rfl rfl (xe_mono (C_X10_end_0 s hG z46 (by first | exact x_rbe e_z46 g_z46 rfl rfl | exact x_rb g_z46 rfl rfl | exact ⟨by omega, by omega⟩) z48 (by first | exact x_rbe e_z48 g_z48 rfl rfl | exact x_rb g_z48 rfl rfl | exact ⟨by omega, by omega⟩)) ?_)
        rintro s50 v ⟨hG_s50, t_s50, z49, rfl, g_z49⟩
        have q51 : s50 231 3 = x1000 := (t_s50 231 3 (show 2884 ∉ [192, 256, 3276, 3277] from by decide +kernel)).trans e_x1000.symm
        have q52 : s50 256 58 = x1001 := (t_s50 256 58 (show 4155 ∉ [192, 256, 3276, 3277] from by decide +kernel)).trans e_x1001.symm
        have J_s50 : J s50 := J.fl i_J t_s50 (by decide +kernel)
        show xe (some (N, xs)) 231 251 [(0, .ref 2000), (1, .ref 0), (2, .ref 256), (3, vi x3)] [vi z49] s50 295 10442 _
        refine x_A k231_251 (fun _ => rfl) ?_
        refine x_A k231_252 (fun _ => rfl) ?_
        refine x_A k231_253 (fun _ => rfl) ?_
        refine x_A k231_254 (fun _ => rfl) ?_
        refine x_A k231_255 (fun _ => rfl) ?_
        refine x_iadd k231_256 ?_
        refine x_top (fun z53 e_z53 => ?_)
        refine x_scr k231_257 hN ⟨by omega, by omega⟩ (fun z54 g_z54 e_z54 => ?_)
        unfold in32 at g_z54
        have q_z54 : z54 = z46 := by rw [e_z54, e_z46, show z53 = z45 by omega]
        refine x_A k231_258 (fun _ => rfl) ?_
        refine x_A k231_259 (fun _ => rfl) ?_
        refine x_A k231_260 (fun _ => rfl) ?_
        refine x_iadd k231_261 ?_
        refine x_top (fun z55 e_z55 => ?_)
        refine x_scr k231_262 hN ⟨by omega, by omega⟩ (fun z56 g_z56 e_z56 => ?_)
        unfold in32 at g_z56
        have q_z56 : z56 = z48 := by rw [e_z56, e_z48, show z55 = z47 by omega]
        refine x_callV k231_263 (y := 148) (n := 2) (w0 := 0) (w1 := 2) (as := [vi z54, vi z56]) (rest := []) (by decide +kernel) (q := 256) (nq := 62) (kq := 15) ⟨by decide, rfl⟩ rfl rfl rfl rfl (xe_mono (D_X11_end_256 s50 hG_s50 z54 (by first | exact x_rbe e_z54 g_z54 rfl rfl | exact x_rb g_z54 rfl rfl | exact ⟨by omega, by omega⟩) z56 (by first | exact x_rbe e_z56 g_z56 rfl rfl | exact x_rb g_z56 rfl rfl | exact ⟨by omega, by omega⟩) J_s50) ?_)
        rintro s58 v ⟨hG_s58, t_s58, z57, rfl, g_z57, J_s58⟩
        have q59 : s58 231 3 = x1000 := (t_s58 231 3 (show 2884 ∉ [4224, 4288] from by decide +kernel)).trans q51
        have q60 : s58 256 58 = x1001 := (t_s58 256 58 (show 4155 ∉ [4224, 4288] from by decide +kernel)).trans q52
        show xe (some (N, xs)) 231 266 [(0, .ref 2000), (1, .ref 0), (2, .ref 256), (3, vi x3)] [vi z57] s58 295 10442 _
        refine x_A k231_266 (fun _ => rfl) ?_
        refine x_goto k231_267 (t := 1300) rfl ?_
        refine x_iinc k231_1300 (ls' := [(3, vi (x3 + 7)), (0, .ref 2000), (1, .ref 0), (2, .ref 256)]) rfl (by decide) rfl ?_
        refine x_goto k231_1303 (t := 18) rfl ?_
        refine x_ls (l := [(0, .ref 2000), (1, .ref 0), (2, .ref 256), (3, vi (x3 + 7))]) (show ([0, 1, 2, 3] : List Nat).Nodup from by decide +kernel) ⟨rfl, rfl, rfl, rfl, trivial⟩ ?_
        exact ih s58 (x3 + 7) x1000 x1001 hG_s58 trivial ⟨by omega, by omega⟩ (by first | exact x_rb b_x1000 rfl rfl | exact ⟨by omega, by omega⟩) (by first | exact x_rb b_x1001 rfl rfl | exact ⟨by omega, by omega⟩) (by omega) (q59).symm (q60).symm J_s58  (by omega)
      · rw [c5]
        refine x_B k231_33 rfl (fun _ => rfl) (fun _ => rfl) (fun _ _ => rfl) ?_
        show xe (some (N, xs)) 231 270 [(0, .ref 2000), (1, .ref 0), (2, .ref 256), (3, vi x3)] [] s 295 10442 _
        refine x_A k231_270 (fun _ => rfl) ?_
        refine x_A k231_271 (fun _ => rfl) ?_
        refine x_A k231_272 (fun _ => rfl) ?_
        refine x_A k231_273 (fun _ => rfl) ?_
        refine x_iadd k231_274 ?_
        refine x_top (fun z61 e_z61 => ?_)
        refine x_scr k231_275 hN ⟨by omega, by omega⟩ (fun z62 g_z62 e_z62 => ?_)
        unfold in32 at g_z62
        refine x_A k231_276 (fun _ => rfl) ?_
        refine x_A k231_277 (fun _ => rfl) ?_
        refine x_A k231_278 (fun _ => rfl) ?_
        refine x_iadd k231_279 ?_
        refine x_top (fun z63 e_z63 => ?_)
        refine x_scr k231_280 hN ⟨by omega, by omega⟩ (fun z64 g_z64 e_z64 => ?_)
        unfold in32 at g_z64
        refine x_A k231_281 (fun _ => rfl) ?_
        refine x_A k231_282 (fun _ => rfl) ?_
        refine x_A k231_283 (fun _ => rfl) ?_
        refine x_iadd k231_284 ?_
        refine x_top (fun z65 e_z65 => ?_)
        refine x_scr k231_285 hN ⟨by omega, by omega⟩ (fun z66 g_z66 e_z66 => ?_)
        unfold in32 at g_z66
        refine x_callV k231_286 (y := 95) (n := 3) (w0 := 0) (w1 := 3) (as := [vi z62, vi z64, vi z66]) (rest := []) (by decide +kernel) (q := 0) (nq := 12) (kq := 3) ⟨by decide, rfl⟩ rfl rfl rfl rfl (xe_mono (C_X10_tree_0 s hG i_J z62 (by first | exact x_rbe e_z62 g_z62 rfl rfl | exact x_rb g_z62 rfl rfl | exact ⟨by omega, by omega⟩) z64 (by first | exact x_rbe e_z64 g_z64 rfl rfl | exact x_rb g_z64 rfl rfl | exact ⟨by omega, by omega⟩) z66 (by first | exact x_rbe e_z66 g_z66 rfl rfl | exact x_rb g_z66 rfl rfl | exact ⟨by omega, by omega⟩)) ?_)
        rintro s68 v ⟨hG_s68, t_s68, z67, rfl, g_z67⟩
        have q69 : s68 231 3 = x1000 := (t_s68 231 3 (show 2884 ∉ [3329, 3334, 3335, 3336, 3392, 3456, 3520, 3584, 3276, 3648, 3712, 3776, 3840, 3904, 3968, 3277, 4032] from by decide +kernel)).trans e_x1000.symm
        have q70 : s68 256 58 = x1001 := (t_s68 256 58 (show 4155 ∉ [3329, 3334, 3335, 3336, 3392, 3456, 3520, 3584, 3276, 3648, 3712, 3776, 3840, 3904, 3968, 3277, 4032] from by decide +kernel)).trans e_x1001.symm
        have J_s68 : J s68 := J.fl i_J t_s68 (by decide +kernel)
        show xe (some (N, xs)) 231 289 [(0, .ref 2000), (1, .ref 0), (2, .ref 256), (3, vi x3)] [vi z67] s68 295 10442 _
        refine x_A k231_289 (fun _ => rfl) ?_
        refine x_A k231_290 (fun _ => rfl) ?_
        refine x_A k231_291 (fun _ => rfl) ?_
        refine x_A k231_292 (fun _ => rfl) ?_
        refine x_A k231_293 (fun _ => rfl) ?_
        refine x_iadd k231_294 ?_
        refine x_top (fun z71 e_z71 => ?_)
        refine x_scr k231_295 hN ⟨by omega, by omega⟩ (fun z72 g_z72 e_z72 => ?_)
        unfold in32 at g_z72
        have q_z72 : z72 = z62 := by rw [e_z72, e_z62, show z71 = z61 by omega]
        refine x_A k231_296 (fun _ => rfl) ?_
        refine x_A k231_297 (fun _ => rfl) ?_
        refine x_A k231_298 (fun _ => rfl) ?_
        refine x_iadd k231_299 ?_
        refine x_top (fun z73 e_z73 => ?_)
        refine x_scr k231_300 hN ⟨by omega, by omega⟩ (fun z74 g_z74 e_z74 => ?_)
        unfold in32 at g_z74
        have q_z74 : z74 = z64 := by rw [e_z74, e_z64, show z73 = z63 by omega]
        refine x_A k231_301 (fun _ => rfl) ?_
        refine x_A k231_302 (fun _ => rfl) ?_
        refine x_A k231_303 (fun _ => rfl) ?_
        refine x_iadd k231_304 ?_
        refine x_top (fun z75 e_z75 => ?_)
        refine x_scr k231_305 hN ⟨by omega, by omega⟩ (fun z76 g_z76 e_z76 => ?_)
        unfold in32 at g_z76
        have q_z76 : z76 = z66 := by rw [e_z76, e_z66, show z75 = z65 by omega]
        refine x_callV k231_306 (y := 149) (n := 3) (w0 := 0) (w1 := 3) (as := [vi z72, vi z74, vi z76]) (rest := []) (by decide +kernel) (q := 256) (nq := 62) (kq := 15) ⟨by decide, rfl⟩ rfl rfl rfl rfl (xe_mono (C_X11_tree_256 s68 hG_s68 J_s68 z72 (by first | exact x_rbe e_z72 g_z72 rfl rfl | exact x_rb g_z72 rfl rfl | exact ⟨by omega, by omega⟩) z74 (by first | exact x_rbe e_z74 g_z74 rfl rfl | exact x_rb g_z74 rfl rfl | exact ⟨by omega, by omega⟩) z76 (by first | exact x_rbe e_z76 g_z76 rfl rfl | exact x_rb g_z76 rfl rfl | exact ⟨by omega, by omega⟩)) ?_)
        rintro s78 v ⟨hG_s78, t_s78, z77, rfl, g_z77⟩
        have q79 : s78 231 3 = x1000 := (t_s78 231 3 (show 2884 ∉ [5312, 5376, 4123, 5440, 5504, 5568, 5632, 5696, 5760] from by decide +kernel)).trans q69
        have q80 : s78 256 58 = x1001 := (t_s78 256 58 (show 4155 ∉ [5312, 5376, 4123, 5440, 5504, 5568, 5632, 5696, 5760] from by decide +kernel)).trans q70
        have J_s78 : J s78 := J.fl J_s68 t_s78 (by decide +kernel)
        show xe (some (N, xs)) 231 309 [(0, .ref 2000), (1, .ref 0), (2, .ref 256), (3, vi x3)] [vi z77] s78 295 10442 _
        refine x_A k231_309 (fun _ => rfl) ?_
        refine x_goto k231_310 (t := 1300) rfl ?_
        refine x_iinc k231_1300 (ls' := [(3, vi (x3 + 7)), (0, .ref 2000), (1, .ref 0), (2, .ref 256)]) rfl (by decide) rfl ?_
        refine x_goto k231_1303 (t := 18) rfl ?_
        refine x_ls (l := [(0, .ref 2000), (1, .ref 0), (2, .ref 256), (3, vi (x3 + 7))]) (show ([0, 1, 2, 3] : List Nat).Nodup from by decide +kernel) ⟨rfl, rfl, rfl, rfl, trivial⟩ ?_
        exact ih s78 (x3 + 7) x1000 x1001 hG_s78 trivial ⟨by omega, by omega⟩ (by first | exact x_rb b_x1000 rfl rfl | exact ⟨by omega, by omega⟩) (by first | exact x_rb b_x1001 rfl rfl | exact ⟨by omega, by omega⟩) (by omega) (q79).symm (q80).symm J_s78  (by omega)
      · rw [c5]
        refine x_B k231_33 rfl (fun _ => rfl) (fun _ => rfl) (fun _ _ => rfl) ?_
        show xe (some (N, xs)) 231 313 [(0, .ref 2000), (1, .ref 0), (2, .ref 256), (3, vi x3)] [] s 295 10442 _
        refine x_A k231_313 (fun _ => rfl) ?_
        refine x_A k231_314 (fun _ => rfl) ?_
        refine x_A k231_315 (fun _ => rfl) ?_
        refine x_A k231_316 (fun _ => rfl) ?_
        refine x_iadd k231_317 ?_
        refine x_top (fun z81 e_z81 => ?_)
        refine x_scr k231_318 hN ⟨by omega, by omega⟩ (fun z82 g_z82 e_z82 => ?_)
        unfold in32 at g_z82
        refine x_A k231_319 (fun _ => rfl) ?_
        refine x_A k231_320 (fun _ => rfl) ?_
        refine x_A k231_321 (fun _ => rfl) ?_
        refine x_iadd k231_322 ?_
        refine x_top (fun z83 e_z83 => ?_)
        refine x_scr k231_323 hN ⟨by omega, by omega⟩ (fun z84 g_z84 e_z84 => ?_)
        unfold in32 at g_z84
        refine x_A k231_324 (fun _ => rfl) ?_
        refine x_A k231_325 (fun _ => rfl) ?_
        refine x_A k231_326 (fun _ => rfl) ?_
        refine x_iadd k231_327 ?_
        refine x_top (fun z85 e_z85 => ?_)
        refine x_scr k231_328 hN ⟨by omega, by omega⟩ (fun z86 g_z86 e_z86 => ?_)
        unfold in32 at g_z86
        refine x_callV k231_329 (y := 96) (n := 3) (w0 := 0) (w1 := 3) (as := [vi z82, vi z84, vi z86]) (rest := []) (by decide +kernel) (q := 0) (nq := 12) (kq := 3) ⟨by decide, rfl⟩ rfl rfl rfl rfl (xe_mono (C_X10_below_0 s hG z82 (by first | exact x_rbe e_z82 g_z82 rfl rfl | exact x_rb g_z82 rfl rfl | exact ⟨by omega, by omega⟩) z84 (by first | exact x_rbe e_z84 g_z84 rfl rfl | exact x_rb g_z84 rfl rfl | exact ⟨by omega, by omega⟩) z86 (by first | exact x_rbe e_z86 g_z86 rfl rfl | exact x_rb g_z86 rfl rfl | exact ⟨by omega, by omega⟩)) ?_)
        rintro s88 v ⟨-, t_s88, z87, rfl, g_z87⟩
        rw [t_s88.nil]
        show xe (some (N, xs)) 231 332 [(0, .ref 2000), (1, .ref 0), (2, .ref 256), (3, vi x3)] [vi z87] s 295 10442 _
        refine x_A k231_332 (fun _ => rfl) ?_
        refine x_A k231_333 (fun _ => rfl) ?_
        refine x_A k231_334 (fun _ => rfl) ?_
        refine x_A k231_335 (fun _ => rfl) ?_
        refine x_A k231_336 (fun _ => rfl) ?_
        refine x_iadd k231_337 ?_
        refine x_top (fun z89 e_z89 => ?_)
        refine x_scr k231_338 hN ⟨by omega, by omega⟩ (fun z90 g_z90 e_z90 => ?_)
        unfold in32 at g_z90
        have q_z90 : z90 = z82 := by rw [e_z90, e_z82, show z89 = z81 by omega]
        refine x_A k231_339 (fun _ => rfl) ?_
        refine x_A k231_340 (fun _ => rfl) ?_
        refine x_A k231_341 (fun _ => rfl) ?_
        refine x_iadd k231_342 ?_
        refine x_top (fun z91 e_z91 => ?_)
        refine x_scr k231_343 hN ⟨by omega, by omega⟩ (fun z92 g_z92 e_z92 => ?_)
        unfold in32 at g_z92
        have q_z92 : z92 = z84 := by rw [e_z92, e_z84, show z91 = z83 by omega]
        refine x_A k231_344 (fun _ => rfl) ?_
        refine x_A k231_345 (fun _ => rfl) ?_
        refine x_A k231_346 (fun _ => rfl) ?_
        refine x_iadd k231_347 ?_
        refine x_top (fun z93 e_z93 => ?_)
        refine x_scr k231_348 hN ⟨by omega, by omega⟩ (fun z94 g_z94 e_z94 => ?_)
        unfold in32 at g_z94
        have q_z94 : z94 = z86 := by rw [e_z94, e_z86, show z93 = z85 by omega]
        refine x_callV k231_349 (y := 150) (n := 3) (w0 := 0) (w1 := 3) (as := [vi z90, vi z92, vi z94]) (rest := []) (by decide +kernel) (q := 256) (nq := 62) (kq := 15) ⟨by decide, rfl⟩ rfl rfl rfl rfl (xe_mono (C_X11_below_256 s hG i_J z90 (by first | exact x_rbe e_z90 g_z90 rfl rfl | exact x_rb g_z90 rfl rfl | exact ⟨by omega, by omega⟩) z92 (by first | exact x_rbe e_z92 g_z92 rfl rfl | exact x_rb g_z92 rfl rfl | exact ⟨by omega, by omega⟩) z94 (by first | exact x_rbe e_z94 g_z94 rfl rfl | exact x_rb g_z94 rfl rfl | exact ⟨by omega, by omega⟩)) ?_)
        rintro s96 v ⟨-, t_s96, z95, rfl, g_z95⟩
        rw [t_s96.nil]
        show xe (some (N, xs)) 231 352 [(0, .ref 2000), (1, .ref 0), (2, .ref 256), (3, vi x3)] [vi z95] s 295 10442 _
        refine x_A k231_352 (fun _ => rfl) ?_
        refine x_goto k231_353 (t := 1300) rfl ?_
        refine x_iinc k231_1300 (ls' := [(3, vi (x3 + 7)), (0, .ref 2000), (1, .ref 0), (2, .ref 256)]) rfl (by decide) rfl ?_
        refine x_goto k231_1303 (t := 18) rfl ?_
        refine x_ls (l := [(0, .ref 2000), (1, .ref 0), (2, .ref 256), (3, vi (x3 + 7))]) (show ([0, 1, 2, 3] : List Nat).Nodup from by decide +kernel) ⟨rfl, rfl, rfl, rfl, trivial⟩ ?_
        exact ih s (x3 + 7) x1000 x1001 hG f ⟨by omega, by omega⟩ (by first | exact x_rb b_x1000 rfl rfl | exact ⟨by omega, by omega⟩) (by first | exact x_rb b_x1001 rfl rfl | exact ⟨by omega, by omega⟩) (by omega) (e_x1000.symm).symm (e_x1001.symm).symm i_J  (by omega)
      · rw [c5]
        refine x_B k231_33 rfl (fun _ => rfl) (fun _ => rfl) (fun _ _ => rfl) ?_
        show xe (some (N, xs)) 231 356 [(0, .ref 2000), (1, .ref 0), (2, .ref 256), (3, vi x3)] [] s 295 10442 _
        refine x_A k231_356 (fun _ => rfl) ?_
        refine x_A k231_357 (fun _ => rfl) ?_
        refine x_A k231_358 (fun _ => rfl) ?_
        refine x_A k231_359 (fun _ => rfl) ?_
        refine x_iadd k231_360 ?_
        refine x_top (fun z97 e_z97 => ?_)
        refine x_scr k231_361 hN ⟨by omega, by omega⟩ (fun z98 g_z98 e_z98 => ?_)
        unfold in32 at g_z98
        refine x_A k231_362 (fun _ => rfl) ?_
        refine x_A k231_363 (fun _ => rfl) ?_
        refine x_A k231_364 (fun _ => rfl) ?_
        refine x_iadd k231_365 ?_
        refine x_top (fun z99 e_z99 => ?_)
        refine x_scr k231_366 hN ⟨by omega, by omega⟩ (fun z100 g_z100 e_z100 => ?_)
        unfold in32 at g_z100
        refine x_A k231_367 (fun _ => rfl) ?_
        refine x_A k231_368 (fun _ => rfl) ?_
        refine x_A k231_369 (fun _ => rfl) ?_
        refine x_iadd k231_370 ?_
        refine x_top (fun z101 e_z101 => ?_)
        refine x_scr k231_371 hN ⟨by omega, by omega⟩ (fun z102 g_z102 e_z102 => ?_)
        unfold in32 at g_z102
        refine x_callV k231_372 (y := 97) (n := 3) (w0 := 0) (w1 := 3) (as := [vi z98, vi z100, vi z102]) (rest := []) (by decide +kernel) (q := 0) (nq := 12) (kq := 3) ⟨by decide, rfl⟩ rfl rfl rfl rfl (xe_mono (C_X10_picture_0 s hG z98 (by first | exact x_rbe e_z98 g_z98 rfl rfl | exact x_rb g_z98 rfl rfl | exact ⟨by omega, by omega⟩) z100 (by first | exact x_rbe e_z100 g_z100 rfl rfl | exact x_rb g_z100 rfl rfl | exact ⟨by omega, by omega⟩) z102 (by first | exact x_rbe e_z102 g_z102 rfl rfl | exact x_rb g_z102 rfl rfl | exact ⟨by omega, by omega⟩)) ?_)
        rintro s104 v ⟨hG_s104, t_s104, z103, rfl, g_z103⟩
        have q105 : s104 231 3 = x1000 := (t_s104 231 3 (show 2884 ∉ [452, 512, 576, 640] from by decide +kernel)).trans e_x1000.symm
        have q106 : s104 256 58 = x1001 := (t_s104 256 58 (show 4155 ∉ [452, 512, 576, 640] from by decide +kernel)).trans e_x1001.symm
        have J_s104 : J s104 := J.fl i_J t_s104 (by decide +kernel)
        show xe (some (N, xs)) 231 375 [(0, .ref 2000), (1, .ref 0), (2, .ref 256), (3, vi x3)] [vi z103] s104 295 10442 _
        refine x_A k231_375 (fun _ => rfl) ?_
        refine x_A k231_376 (fun _ => rfl) ?_
        refine x_A k231_377 (fun _ => rfl) ?_
        refine x_A k231_378 (fun _ => rfl) ?_
        refine x_A k231_379 (fun _ => rfl) ?_
        refine x_iadd k231_380 ?_
        refine x_top (fun z107 e_z107 => ?_)
        refine x_scr k231_381 hN ⟨by omega, by omega⟩ (fun z108 g_z108 e_z108 => ?_)
        unfold in32 at g_z108
        have q_z108 : z108 = z98 := by rw [e_z108, e_z98, show z107 = z97 by omega]
        refine x_A k231_382 (fun _ => rfl) ?_
        refine x_A k231_383 (fun _ => rfl) ?_
        refine x_A k231_384 (fun _ => rfl) ?_
        refine x_iadd k231_385 ?_
        refine x_top (fun z109 e_z109 => ?_)
        refine x_scr k231_386 hN ⟨by omega, by omega⟩ (fun z110 g_z110 e_z110 => ?_)
        unfold in32 at g_z110
        have q_z110 : z110 = z100 := by rw [e_z110, e_z100, show z109 = z99 by omega]
        refine x_A k231_387 (fun _ => rfl) ?_
        refine x_A k231_388 (fun _ => rfl) ?_
        refine x_A k231_389 (fun _ => rfl) ?_
        refine x_iadd k231_390 ?_
        refine x_top (fun z111 e_z111 => ?_)
        refine x_scr k231_391 hN ⟨by omega, by omega⟩ (fun z112 g_z112 e_z112 => ?_)
        unfold in32 at g_z112
        have q_z112 : z112 = z102 := by rw [e_z112, e_z102, show z111 = z101 by omega]
        refine x_callV k231_392 (y := 154) (n := 3) (w0 := 0) (w1 := 3) (as := [vi z108, vi z110, vi z112]) (rest := []) (by decide +kernel) (q := 256) (nq := 62) (kq := 15) ⟨by decide, rfl⟩ rfl rfl rfl rfl (xe_mono (D_X11_picture_256 s104 hG_s104 z108 (by first | exact x_rbe e_z108 g_z108 rfl rfl | exact x_rb g_z108 rfl rfl | exact ⟨by omega, by omega⟩) z110 (by first | exact x_rbe e_z110 g_z110 rfl rfl | exact x_rb g_z110 rfl rfl | exact ⟨by omega, by omega⟩) z112 (by first | exact x_rbe e_z112 g_z112 rfl rfl | exact x_rb g_z112 rfl rfl | exact ⟨by omega, by omega⟩) J_s104) ?_)
        rintro s114 v ⟨hG_s114, t_s114, z113, rfl, g_z113, J_s114⟩
        have q115 : s114 231 3 = x1000 := (t_s114 231 3 (show 2884 ∉ [4103, 4416, 4480, 4544] from by decide +kernel)).trans q105
        have q116 : s114 256 58 = x1001 := (t_s114 256 58 (show 4155 ∉ [4103, 4416, 4480, 4544] from by decide +kernel)).trans q106
        show xe (some (N, xs)) 231 395 [(0, .ref 2000), (1, .ref 0), (2, .ref 256), (3, vi x3)] [vi z113] s114 295 10442 _
        refine x_A k231_395 (fun _ => rfl) ?_
        refine x_goto k231_396 (t := 1300) rfl ?_
        refine x_iinc k231_1300 (ls' := [(3, vi (x3 + 7)), (0, .ref 2000), (1, .ref 0), (2, .ref 256)]) rfl (by decide) rfl ?_
        refine x_goto k231_1303 (t := 18) rfl ?_
        refine x_ls (l := [(0, .ref 2000), (1, .ref 0), (2, .ref 256), (3, vi (x3 + 7))]) (show ([0, 1, 2, 3] : List Nat).Nodup from by decide +kernel) ⟨rfl, rfl, rfl, rfl, trivial⟩ ?_
        exact ih s114 (x3 + 7) x1000 x1001 hG_s114 trivial ⟨by omega, by omega⟩ (by first | exact x_rb b_x1000 rfl rfl | exact ⟨by omega, by omega⟩) (by first | exact x_rb b_x1001 rfl rfl | exact ⟨by omega, by omega⟩) (by omega) (q115).symm (q116).symm J_s114  (by omega)
      · rw [c5]
        refine x_B k231_33 rfl (fun _ => rfl) (fun _ => rfl) (fun _ _ => rfl) ?_
        show xe (some (N, xs)) 231 399 [(0, .ref 2000), (1, .ref 0), (2, .ref 256), (3, vi x3)] [] s 295 10442 _
        refine x_A k231_399 (fun _ => rfl) ?_
        refine x_A k231_400 (fun _ => rfl) ?_
        refine x_A k231_401 (fun _ => rfl) ?_
        refine x_A k231_402 (fun _ => rfl) ?_
        refine x_iadd k231_403 ?_
        refine x_top (fun z117 e_z117 => ?_)
        refine x_scr k231_404 hN ⟨by omega, by omega⟩ (fun z118 g_z118 e_z118 => ?_)
        unfold in32 at g_z118
        refine x_A k231_405 (fun _ => rfl) ?_
        refine x_A k231_406 (fun _ => rfl) ?_
        refine x_A k231_407 (fun _ => rfl) ?_
        refine x_iadd k231_408 ?_
        refine x_top (fun z119 e_z119 => ?_)
        refine x_scr k231_409 hN ⟨by omega, by omega⟩ (fun z120 g_z120 e_z120 => ?_)
        unfold in32 at g_z120
        refine x_A k231_410 (fun _ => rfl) ?_
        refine x_A k231_411 (fun _ => rfl) ?_
        refine x_A k231_412 (fun _ => rfl) ?_
        refine x_iadd k231_413 ?_
        refine x_top (fun z121 e_z121 => ?_)
        refine x_scr k231_414 hN ⟨by omega, by omega⟩ (fun z122 g_z122 e_z122 => ?_)
        unfold in32 at g_z122
        refine x_A k231_415 (fun _ => rfl) ?_
        refine x_A k231_416 (fun _ => rfl) ?_
        refine x_A k231_417 (fun _ => rfl) ?_
        refine x_iadd k231_418 ?_
        refine x_top (fun z123 e_z123 => ?_)
        refine x_scr k231_419 hN ⟨by omega, by omega⟩ (fun z124 g_z124 e_z124 => ?_)
        unfold in32 at g_z124
        refine x_callV k231_420 (y := 98) (n := 4) (w0 := 0) (w1 := 4) (as := [vi z118, vi z120, vi z122, vi z124]) (rest := []) (by decide +kernel) (q := 0) (nq := 12) (kq := 3) ⟨by decide, rfl⟩ rfl rfl rfl rfl (xe_mono (C_X10_give_0 s hG z118 (by first | exact x_rbe e_z118 g_z118 rfl rfl | exact x_rb g_z118 rfl rfl | exact ⟨by omega, by omega⟩) z120 (by first | exact x_rbe e_z120 g_z120 rfl rfl | exact x_rb g_z120 rfl rfl | exact ⟨by omega, by omega⟩) z122 (by first | exact x_rbe e_z122 g_z122 rfl rfl | exact x_rb g_z122 rfl rfl | exact ⟨by omega, by omega⟩) z124 (by first | exact x_rbe e_z124 g_z124 rfl rfl | exact x_rb g_z124 rfl rfl | exact ⟨by omega, by omega⟩)) ?_)
        rintro s126 v ⟨hG_s126, t_s126, z125, rfl, g_z125⟩
        have q127 : s126 231 3 = x1000 := (t_s126 231 3 (show 2884 ∉ [711, 768, 832, 896, 960, 1024, 1152, 3276, 3277] from by decide +kernel)).trans e_x1000.symm
        have q128 : s126 256 58 = x1001 := (t_s126 256 58 (show 4155 ∉ [711, 768, 832, 896, 960, 1024, 1152, 3276, 3277] from by decide +kernel)).trans e_x1001.symm
        have J_s126 : J s126 := J.fl i_J t_s126 (by decide +kernel)
        show xe (some (N, xs)) 231 423 [(0, .ref 2000), (1, .ref 0), (2, .ref 256), (3, vi x3)] [vi z125] s126 295 10442 _
        refine x_A k231_423 (fun _ => rfl) ?_
        refine x_A k231_424 (fun _ => rfl) ?_
        refine x_A k231_425 (fun _ => rfl) ?_
        refine x_A k231_426 (fun _ => rfl) ?_
        refine x_A k231_427 (fun _ => rfl) ?_
        refine x_iadd k231_428 ?_
        refine x_top (fun z129 e_z129 => ?_)
        refine x_scr k231_429 hN ⟨by omega, by omega⟩ (fun z130 g_z130 e_z130 => ?_)
        unfold in32 at g_z130
        have q_z130 : z130 = z118 := by rw [e_z130, e_z118, show z129 = z117 by omega]
        refine x_A k231_430 (fun _ => rfl) ?_
        refine x_A k231_431 (fun _ => rfl) ?_
        refine x_A k231_432 (fun _ => rfl) ?_
        refine x_iadd k231_433 ?_
        refine x_top (fun z131 e_z131 => ?_)
        refine x_scr k231_434 hN ⟨by omega, by omega⟩ (fun z132 g_z132 e_z132 => ?_)
        unfold in32 at g_z132
        have q_z132 : z132 = z120 := by rw [e_z132, e_z120, show z131 = z119 by omega]
        refine x_A k231_435 (fun _ => rfl) ?_
        refine x_A k231_436 (fun _ => rfl) ?_
        refine x_A k231_437 (fun _ => rfl) ?_
        refine x_iadd k231_438 ?_
        refine x_top (fun z133 e_z133 => ?_)
        refine x_scr k231_439 hN ⟨by omega, by omega⟩ (fun z134 g_z134 e_z134 => ?_)
        unfold in32 at g_z134
        have q_z134 : z134 = z122 := by rw [e_z134, e_z122, show z133 = z121 by omega]
        refine x_A k231_440 (fun _ => rfl) ?_
        refine x_A k231_441 (fun _ => rfl) ?_
        refine x_A k231_442 (fun _ => rfl) ?_
        refine x_iadd k231_443 ?_
        refine x_top (fun z135 e_z135 => ?_)
        refine x_scr k231_444 hN ⟨by omega, by omega⟩ (fun z136 g_z136 e_z136 => ?_)
        unfold in32 at g_z136
        have q_z136 : z136 = z124 := by rw [e_z136, e_z124, show z135 = z123 by omega]
        refine x_callV k231_445 (y := 155) (n := 4) (w0 := 0) (w1 := 4) (as := [vi z130, vi z132, vi z134, vi z136]) (rest := []) (by decide +kernel) (q := 256) (nq := 62) (kq := 15) ⟨by decide, rfl⟩ rfl rfl rfl rfl (xe_mono (C_X11_give_256 s126 hG_s126 z130 (by first | exact x_rbe e_z130 g_z130 rfl rfl | exact x_rb g_z130 rfl rfl | exact ⟨by omega, by omega⟩) z132 (by first | exact x_rbe e_z132 g_z132 rfl rfl | exact x_rb g_z132 rfl rfl | exact ⟨by omega, by omega⟩) z134 (by first | exact x_rbe e_z134 g_z134 rfl rfl | exact x_rb g_z134 rfl rfl | exact ⟨by omega, by omega⟩) z136 (by first | exact x_rbe e_z136 g_z136 rfl rfl | exact x_rb g_z136 rfl rfl | exact ⟨by omega, by omega⟩)) ?_)
        rintro s138 v ⟨hG_s138, t_s138, z137, rfl, g_z137⟩
        have q139 : s138 231 3 = x1000 := (t_s138 231 3 (show 2884 ∉ [4107, 4608, 4672, 4736, 4800, 4864, 4928] from by decide +kernel)).trans q127
        have q140 : s138 256 58 = x1001 := (t_s138 256 58 (show 4155 ∉ [4107, 4608, 4672, 4736, 4800, 4864, 4928] from by decide +kernel)).trans q128
        have J_s138 : J s138 := J.fl J_s126 t_s138 (by decide +kernel)
        show xe (some (N, xs)) 231 448 [(0, .ref 2000), (1, .ref 0), (2, .ref 256), (3, vi x3)] [vi z137] s138 295 10442 _
        refine x_A k231_448 (fun _ => rfl) ?_
        refine x_goto k231_449 (t := 1300) rfl ?_
        refine x_iinc k231_1300 (ls' := [(3, vi (x3 + 7)), (0, .ref 2000), (1, .ref 0), (2, .ref 256)]) rfl (by decide) rfl ?_
        refine x_goto k231_1303 (t := 18) rfl ?_
        refine x_ls (l := [(0, .ref 2000), (1, .ref 0), (2, .ref 256), (3, vi (x3 + 7))]) (show ([0, 1, 2, 3] : List Nat).Nodup from by decide +kernel) ⟨rfl, rfl, rfl, rfl, trivial⟩ ?_
        exact ih s138 (x3 + 7) x1000 x1001 hG_s138 trivial ⟨by omega, by omega⟩ (by first | exact x_rb b_x1000 rfl rfl | exact ⟨by omega, by omega⟩) (by first | exact x_rb b_x1001 rfl rfl | exact ⟨by omega, by omega⟩) (by omega) (q139).symm (q140).symm J_s138  (by omega)
      · rw [c5]
        refine x_B k231_33 rfl (fun _ => rfl) (fun _ => rfl) (fun _ _ => rfl) ?_
        show xe (some (N, xs)) 231 452 [(0, .ref 2000), (1, .ref 0), (2, .ref 256), (3, vi x3)] [] s 295 10442 _
        refine x_A k231_452 (fun _ => rfl) ?_
        refine x_A k231_453 (fun _ => rfl) ?_
        refine x_A k231_454 (fun _ => rfl) ?_
        refine x_A k231_455 (fun _ => rfl) ?_
        refine x_iadd k231_456 ?_
        refine x_top (fun z141 e_z141 => ?_)
        refine x_scr k231_457 hN ⟨by omega, by omega⟩ (fun z142 g_z142 e_z142 => ?_)
        unfold in32 at g_z142
        refine x_A k231_458 (fun _ => rfl) ?_
        refine x_A k231_459 (fun _ => rfl) ?_
        refine x_A k231_460 (fun _ => rfl) ?_
        refine x_iadd k231_461 ?_
        refine x_top (fun z143 e_z143 => ?_)
        refine x_scr k231_462 hN ⟨by omega, by omega⟩ (fun z144 g_z144 e_z144 => ?_)
        unfold in32 at g_z144
        refine x_callV k231_463 (y := 99) (n := 2) (w0 := 0) (w1 := 2) (as := [vi z142, vi z144]) (rest := []) (by decide +kernel) (q := 0) (nq := 12) (kq := 3) ⟨by decide, rfl⟩ rfl rfl rfl rfl (xe_mono (C_X10_doubt_0 s hG z142 (by first | exact x_rbe e_z142 g_z142 rfl rfl | exact x_rb g_z142 rfl rfl | exact ⟨by omega, by omega⟩) z144 (by first | exact x_rbe e_z144 g_z144 rfl rfl | exact x_rb g_z144 rfl rfl | exact ⟨by omega, by omega⟩)) ?_)
        rintro s146 v ⟨hG_s146, t_s146, z145, rfl, g_z145⟩
        have q147 : s146 231 3 = x1000 := (t_s146 231 3 (show 2884 ∉ [1152, 3276, 3277] from by decide +kernel)).trans e_x1000.symm
        have q148 : s146 256 58 = x1001 := (t_s146 256 58 (show 4155 ∉ [1152, 3276, 3277] from by decide +kernel)).trans e_x1001.symm
        have J_s146 : J s146 := J.fl i_J t_s146 (by decide +kernel)
        show xe (some (N, xs)) 231 466 [(0, .ref 2000), (1, .ref 0), (2, .ref 256), (3, vi x3)] [vi z145] s146 295 10442 _
        refine x_A k231_466 (fun _ => rfl) ?_
        refine x_A k231_467 (fun _ => rfl) ?_
        refine x_A k231_468 (fun _ => rfl) ?_
        refine x_A k231_469 (fun _ => rfl) ?_
        refine x_A k231_470 (fun _ => rfl) ?_
        refine x_iadd k231_471 ?_
        refine x_top (fun z149 e_z149 => ?_)
        refine x_scr k231_472 hN ⟨by omega, by omega⟩ (fun z150 g_z150 e_z150 => ?_)
        unfold in32 at g_z150
        have q_z150 : z150 = z142 := by rw [e_z150, e_z142, show z149 = z141 by omega]
        refine x_A k231_473 (fun _ => rfl) ?_
        refine x_A k231_474 (fun _ => rfl) ?_
        refine x_A k231_475 (fun _ => rfl) ?_
        refine x_iadd k231_476 ?_
        refine x_top (fun z151 e_z151 => ?_)
        refine x_scr k231_477 hN ⟨by omega, by omega⟩ (fun z152 g_z152 e_z152 => ?_)
        unfold in32 at g_z152
        have q_z152 : z152 = z144 := by rw [e_z152, e_z144, show z151 = z143 by omega]
        refine x_callV k231_478 (y := 157) (n := 2) (w0 := 0) (w1 := 2) (as := [vi z150, vi z152]) (rest := []) (by decide +kernel) (q := 256) (nq := 62) (kq := 15) ⟨by decide, rfl⟩ rfl rfl rfl rfl (xe_mono (C_X11_doubt_256 s146 hG_s146 z150 (by first | exact x_rbe e_z150 g_z150 rfl rfl | exact x_rb g_z150 rfl rfl | exact ⟨by omega, by omega⟩) z152 (by first | exact x_rbe e_z152 g_z152 rfl rfl | exact x_rb g_z152 rfl rfl | exact ⟨by omega, by omega⟩)) ?_)
        rintro s154 v ⟨hG_s154, t_s154, z153, rfl, g_z153⟩
        have q155 : s154 231 3 = x1000 := (t_s154 231 3 (show 2884 ∉ [4928] from by decide +kernel)).trans q147
        have q156 : s154 256 58 = x1001 := (t_s154 256 58 (show 4155 ∉ [4928] from by decide +kernel)).trans q148
        have J_s154 : J s154 := J.fl J_s146 t_s154 (by decide +kernel)
        show xe (some (N, xs)) 231 481 [(0, .ref 2000), (1, .ref 0), (2, .ref 256), (3, vi x3)] [vi z153] s154 295 10442 _
        refine x_A k231_481 (fun _ => rfl) ?_
        refine x_goto k231_482 (t := 1300) rfl ?_
        refine x_iinc k231_1300 (ls' := [(3, vi (x3 + 7)), (0, .ref 2000), (1, .ref 0), (2, .ref 256)]) rfl (by decide) rfl ?_
        refine x_goto k231_1303 (t := 18) rfl ?_
        refine x_ls (l := [(0, .ref 2000), (1, .ref 0), (2, .ref 256), (3, vi (x3 + 7))]) (show ([0, 1, 2, 3] : List Nat).Nodup from by decide +kernel) ⟨rfl, rfl, rfl, rfl, trivial⟩ ?_
        exact ih s154 (x3 + 7) x1000 x1001 hG_s154 trivial ⟨by omega, by omega⟩ (by first | exact x_rb b_x1000 rfl rfl | exact ⟨by omega, by omega⟩) (by first | exact x_rb b_x1001 rfl rfl | exact ⟨by omega, by omega⟩) (by omega) (q155).symm (q156).symm J_s154  (by omega)
      · rw [c5]
        refine x_B k231_33 rfl (fun _ => rfl) (fun _ => rfl) (fun _ _ => rfl) ?_
        show xe (some (N, xs)) 231 485 [(0, .ref 2000), (1, .ref 0), (2, .ref 256), (3, vi x3)] [] s 295 10442 _
        refine x_A k231_485 (fun _ => rfl) ?_
        refine x_A k231_486 (fun _ => rfl) ?_
        refine x_A k231_487 (fun _ => rfl) ?_
        refine x_A k231_488 (fun _ => rfl) ?_
        refine x_iadd k231_489 ?_
        refine x_top (fun z157 e_z157 => ?_)
        refine x_scr k231_490 hN ⟨by omega, by omega⟩ (fun z158 g_z158 e_z158 => ?_)
        unfold in32 at g_z158
        refine x_A k231_491 (fun _ => rfl) ?_
        refine x_A k231_492 (fun _ => rfl) ?_
        refine x_A k231_493 (fun _ => rfl) ?_
        refine x_iadd k231_494 ?_
        refine x_top (fun z159 e_z159 => ?_)
        refine x_scr k231_495 hN ⟨by omega, by omega⟩ (fun z160 g_z160 e_z160 => ?_)
        unfold in32 at g_z160
        refine x_callV k231_496 (y := 100) (n := 2) (w0 := 0) (w1 := 2) (as := [vi z158, vi z160]) (rest := []) (by decide +kernel) (q := 0) (nq := 12) (kq := 3) ⟨by decide, rfl⟩ rfl rfl rfl rfl (xe_mono (C_X10_told_0 s hG i_J z158 (by first | exact x_rbe e_z158 g_z158 rfl rfl | exact x_rb g_z158 rfl rfl | exact ⟨by omega, by omega⟩) z160 (by first | exact x_rbe e_z160 g_z160 rfl rfl | exact x_rb g_z160 rfl rfl | exact ⟨by omega, by omega⟩)) ?_)
        rintro s162 v ⟨hG_s162, t_s162, z161, rfl, g_z161⟩
        have q163 : s162 231 3 = x1000 := (t_s162 231 3 (show 2884 ∉ [3329, 3334, 3335, 3336, 3392, 3456, 3520, 3584, 3276, 3648, 3712, 3776, 3840, 3904, 3968, 3277, 4032] from by decide +kernel)).trans e_x1000.symm
        have q164 : s162 256 58 = x1001 := (t_s162 256 58 (show 4155 ∉ [3329, 3334, 3335, 3336, 3392, 3456, 3520, 3584, 3276, 3648, 3712, 3776, 3840, 3904, 3968, 3277, 4032] from by decide +kernel)).trans e_x1001.symm
        have J_s162 : J s162 := J.fl i_J t_s162 (by decide +kernel)
        show xe (some (N, xs)) 231 499 [(0, .ref 2000), (1, .ref 0), (2, .ref 256), (3, vi x3)] [vi z161] s162 295 10442 _
        refine x_A k231_499 (fun _ => rfl) ?_
        refine x_A k231_500 (fun _ => rfl) ?_
        refine x_A k231_501 (fun _ => rfl) ?_
        refine x_A k231_502 (fun _ => rfl) ?_
        refine x_A k231_503 (fun _ => rfl) ?_
        refine x_iadd k231_504 ?_
        refine x_top (fun z165 e_z165 => ?_)
        refine x_scr k231_505 hN ⟨by omega, by omega⟩ (fun z166 g_z166 e_z166 => ?_)
        unfold in32 at g_z166
        have q_z166 : z166 = z158 := by rw [e_z166, e_z158, show z165 = z157 by omega]
        refine x_A k231_506 (fun _ => rfl) ?_
        refine x_A k231_507 (fun _ => rfl) ?_
        refine x_A k231_508 (fun _ => rfl) ?_
        refine x_iadd k231_509 ?_
        refine x_top (fun z167 e_z167 => ?_)
        refine x_scr k231_510 hN ⟨by omega, by omega⟩ (fun z168 g_z168 e_z168 => ?_)
        unfold in32 at g_z168
        have q_z168 : z168 = z160 := by rw [e_z168, e_z160, show z167 = z159 by omega]
        refine x_callV k231_511 (y := 158) (n := 2) (w0 := 0) (w1 := 2) (as := [vi z166, vi z168]) (rest := []) (by decide +kernel) (q := 256) (nq := 62) (kq := 15) ⟨by decide, rfl⟩ rfl rfl rfl rfl (xe_mono (C_X11_told_256 s162 hG_s162 J_s162 z166 (by first | exact x_rbe e_z166 g_z166 rfl rfl | exact x_rb g_z166 rfl rfl | exact ⟨by omega, by omega⟩) z168 (by first | exact x_rbe e_z168 g_z168 rfl rfl | exact x_rb g_z168 rfl rfl | exact ⟨by omega, by omega⟩)) ?_)
        rintro s170 v ⟨hG_s170, t_s170, z169, rfl, g_z169⟩
        have q171 : s170 231 3 = x1000 := (t_s170 231 3 (show 2884 ∉ [5312, 5376, 4123, 5440, 5504, 5568] from by decide +kernel)).trans q163
        have q172 : s170 256 58 = x1001 := (t_s170 256 58 (show 4155 ∉ [5312, 5376, 4123, 5440, 5504, 5568] from by decide +kernel)).trans q164
        have J_s170 : J s170 := J.fl J_s162 t_s170 (by decide +kernel)
        show xe (some (N, xs)) 231 514 [(0, .ref 2000), (1, .ref 0), (2, .ref 256), (3, vi x3)] [vi z169] s170 295 10442 _
        refine x_A k231_514 (fun _ => rfl) ?_
        refine x_goto k231_515 (t := 1300) rfl ?_
        refine x_iinc k231_1300 (ls' := [(3, vi (x3 + 7)), (0, .ref 2000), (1, .ref 0), (2, .ref 256)]) rfl (by decide) rfl ?_
        refine x_goto k231_1303 (t := 18) rfl ?_
        refine x_ls (l := [(0, .ref 2000), (1, .ref 0), (2, .ref 256), (3, vi (x3 + 7))]) (show ([0, 1, 2, 3] : List Nat).Nodup from by decide +kernel) ⟨rfl, rfl, rfl, rfl, trivial⟩ ?_
        exact ih s170 (x3 + 7) x1000 x1001 hG_s170 trivial ⟨by omega, by omega⟩ (by first | exact x_rb b_x1000 rfl rfl | exact ⟨by omega, by omega⟩) (by first | exact x_rb b_x1001 rfl rfl | exact ⟨by omega, by omega⟩) (by omega) (q171).symm (q172).symm J_s170  (by omega)
      · rw [c5]
        refine x_B k231_33 rfl (fun _ => rfl) (fun _ => rfl) (fun _ _ => rfl) ?_
        show xe (some (N, xs)) 231 518 [(0, .ref 2000), (1, .ref 0), (2, .ref 256), (3, vi x3)] [] s 295 10442 _
        refine x_A k231_518 (fun _ => rfl) ?_
        refine x_A k231_519 (fun _ => rfl) ?_
        refine x_A k231_520 (fun _ => rfl) ?_
        refine x_A k231_521 (fun _ => rfl) ?_
        refine x_iadd k231_522 ?_
        refine x_top (fun z173 e_z173 => ?_)
        refine x_scr k231_523 hN ⟨by omega, by omega⟩ (fun z174 g_z174 e_z174 => ?_)
        unfold in32 at g_z174
        refine x_A k231_524 (fun _ => rfl) ?_
        refine x_A k231_525 (fun _ => rfl) ?_
        refine x_A k231_526 (fun _ => rfl) ?_
        refine x_iadd k231_527 ?_
        refine x_top (fun z175 e_z175 => ?_)
        refine x_scr k231_528 hN ⟨by omega, by omega⟩ (fun z176 g_z176 e_z176 => ?_)
        unfold in32 at g_z176
        refine x_A k231_529 (fun _ => rfl) ?_
        refine x_A k231_530 (fun _ => rfl) ?_
        refine x_A k231_531 (fun _ => rfl) ?_
        refine x_iadd k231_532 ?_
        refine x_top (fun z177 e_z177 => ?_)
        refine x_scr k231_533 hN ⟨by omega, by omega⟩ (fun z178 g_z178 e_z178 => ?_)
        unfold in32 at g_z178
        refine x_callV k231_534 (y := 101) (n := 3) (w0 := 0) (w1 := 3) (as := [vi z174, vi z176, vi z178]) (rest := []) (by decide +kernel) (q := 0) (nq := 12) (kq := 3) ⟨by decide, rfl⟩ rfl rfl rfl rfl (xe_mono (C_X10_means_0 s hG i_J z174 (by first | exact x_rbe e_z174 g_z174 rfl rfl | exact x_rb g_z174 rfl rfl | exact ⟨by omega, by omega⟩) z176 (by first | exact x_rbe e_z176 g_z176 rfl rfl | exact x_rb g_z176 rfl rfl | exact ⟨by omega, by omega⟩) z178 (by first | exact x_rbe e_z178 g_z178 rfl rfl | exact x_rb g_z178 rfl rfl | exact ⟨by omega, by omega⟩)) ?_)
        rintro s180 v ⟨hG_s180, t_s180, z179, rfl, g_z179⟩
        have q181 : s180 231 3 = x1000 := (t_s180 231 3 (show 2884 ∉ [3329, 3334, 3335, 3336, 3392, 3456, 3520, 3584, 3276, 3648, 3712, 3776, 3840, 3904, 3968, 3277, 4032, 1921, 1926, 1927, 1928, 1984, 2048, 2112, 2176] from by decide +kernel)).trans e_x1000.symm
        have q182 : s180 256 58 = x1001 := (t_s180 256 58 (show 4155 ∉ [3329, 3334, 3335, 3336, 3392, 3456, 3520, 3584, 3276, 3648, 3712, 3776, 3840, 3904, 3968, 3277, 4032, 1921, 1926, 1927, 1928, 1984, 2048, 2112, 2176] from by decide +kernel)).trans e_x1001.symm
        have J_s180 : J s180 := J.fl i_J t_s180 (by decide +kernel)
        show xe (some (N, xs)) 231 537 [(0, .ref 2000), (1, .ref 0), (2, .ref 256), (3, vi x3)] [vi z179] s180 295 10442 _
        refine x_A k231_537 (fun _ => rfl) ?_
        refine x_A k231_538 (fun _ => rfl) ?_
        refine x_A k231_539 (fun _ => rfl) ?_
        refine x_A k231_540 (fun _ => rfl) ?_
        refine x_A k231_541 (fun _ => rfl) ?_
        refine x_iadd k231_542 ?_
        refine x_top (fun z183 e_z183 => ?_)
        refine x_scr k231_543 hN ⟨by omega, by omega⟩ (fun z184 g_z184 e_z184 => ?_)
        unfold in32 at g_z184
        have q_z184 : z184 = z174 := by rw [e_z184, e_z174, show z183 = z173 by omega]
        refine x_A k231_544 (fun _ => rfl) ?_
        refine x_A k231_545 (fun _ => rfl) ?_
        refine x_A k231_546 (fun _ => rfl) ?_
        refine x_iadd k231_547 ?_
        refine x_top (fun z185 e_z185 => ?_)
        refine x_scr k231_548 hN ⟨by omega, by omega⟩ (fun z186 g_z186 e_z186 => ?_)
        unfold in32 at g_z186
        have q_z186 : z186 = z176 := by rw [e_z186, e_z176, show z185 = z175 by omega]
        refine x_A k231_549 (fun _ => rfl) ?_
        refine x_A k231_550 (fun _ => rfl) ?_
        refine x_A k231_551 (fun _ => rfl) ?_
        refine x_iadd k231_552 ?_
        refine x_top (fun z187 e_z187 => ?_)
        refine x_scr k231_553 hN ⟨by omega, by omega⟩ (fun z188 g_z188 e_z188 => ?_)
        unfold in32 at g_z188
        have q_z188 : z188 = z178 := by rw [e_z188, e_z178, show z187 = z177 by omega]
        refine x_callV k231_554 (y := 172) (n := 3) (w0 := 0) (w1 := 3) (as := [vi z184, vi z186, vi z188]) (rest := []) (by decide +kernel) (q := 256) (nq := 62) (kq := 15) ⟨by decide, rfl⟩ rfl rfl rfl rfl (xe_mono (C_X11_means_256 s180 hG_s180 J_s180 z184 (by first | exact x_rbe e_z184 g_z184 rfl rfl | exact x_rb g_z184 rfl rfl | exact ⟨by omega, by omega⟩) z186 (by first | exact x_rbe e_z186 g_z186 rfl rfl | exact x_rb g_z186 rfl rfl | exact ⟨by omega, by omega⟩) z188 (by first | exact x_rbe e_z188 g_z188 rfl rfl | exact x_rb g_z188 rfl rfl | exact ⟨by omega, by omega⟩)) ?_)
        rintro s190 v ⟨hG_s190, t_s190, z189, rfl, g_z189⟩
        have q191 : s190 231 3 = x1000 := (t_s190 231 3 (show 2884 ∉ [5312, 5376, 4123, 5440, 5504, 5568, 5632, 5696, 5760] from by decide +kernel)).trans q181
        have q192 : s190 256 58 = x1001 := (t_s190 256 58 (show 4155 ∉ [5312, 5376, 4123, 5440, 5504, 5568, 5632, 5696, 5760] from by decide +kernel)).trans q182
        have J_s190 : J s190 := J.fl J_s180 t_s190 (by decide +kernel)
        show xe (some (N, xs)) 231 557 [(0, .ref 2000), (1, .ref 0), (2, .ref 256), (3, vi x3)] [vi z189] s190 295 10442 _
        refine x_A k231_557 (fun _ => rfl) ?_
        refine x_goto k231_558 (t := 1300) rfl ?_
        refine x_iinc k231_1300 (ls' := [(3, vi (x3 + 7)), (0, .ref 2000), (1, .ref 0), (2, .ref 256)]) rfl (by decide) rfl ?_
        refine x_goto k231_1303 (t := 18) rfl ?_
        refine x_ls (l := [(0, .ref 2000), (1, .ref 0), (2, .ref 256), (3, vi (x3 + 7))]) (show ([0, 1, 2, 3] : List Nat).Nodup from by decide +kernel) ⟨rfl, rfl, rfl, rfl, trivial⟩ ?_
        exact ih s190 (x3 + 7) x1000 x1001 hG_s190 trivial ⟨by omega, by omega⟩ (by first | exact x_rb b_x1000 rfl rfl | exact ⟨by omega, by omega⟩) (by first | exact x_rb b_x1001 rfl rfl | exact ⟨by omega, by omega⟩) (by omega) (q191).symm (q192).symm J_s190  (by omega)
      · rw [c5]
        refine x_B k231_33 rfl (fun _ => rfl) (fun _ => rfl) (fun _ _ => rfl) ?_
        show xe (some (N, xs)) 231 561 [(0, .ref 2000), (1, .ref 0), (2, .ref 256), (3, vi x3)] [] s 295 10442 _
        refine x_A k231_561 (fun _ => rfl) ?_
        refine x_A k231_562 (fun _ => rfl) ?_
        refine x_A k231_563 (fun _ => rfl) ?_
        refine x_A k231_564 (fun _ => rfl) ?_
        refine x_iadd k231_565 ?_
        refine x_top (fun z193 e_z193 => ?_)
        refine x_scr k231_566 hN ⟨by omega, by omega⟩ (fun z194 g_z194 e_z194 => ?_)
        unfold in32 at g_z194
        refine x_A k231_567 (fun _ => rfl) ?_
        refine x_A k231_568 (fun _ => rfl) ?_
        refine x_A k231_569 (fun _ => rfl) ?_
        refine x_iadd k231_570 ?_
        refine x_top (fun z195 e_z195 => ?_)
        refine x_scr k231_571 hN ⟨by omega, by omega⟩ (fun z196 g_z196 e_z196 => ?_)
        unfold in32 at g_z196
        refine x_A k231_572 (fun _ => rfl) ?_
        refine x_A k231_573 (fun _ => rfl) ?_
        refine x_A k231_574 (fun _ => rfl) ?_
        refine x_iadd k231_575 ?_
        refine x_top (fun z197 e_z197 => ?_)
        refine x_scr k231_576 hN ⟨by omega, by omega⟩ (fun z198 g_z198 e_z198 => ?_)
        unfold in32 at g_z198
        refine x_callV k231_577 (y := 102) (n := 3) (w0 := 0) (w1 := 3) (as := [vi z194, vi z196, vi z198]) (rest := []) (by decide +kernel) (q := 0) (nq := 12) (kq := 3) ⟨by decide, rfl⟩ rfl rfl rfl rfl (xe_mono (C_X10_led_0 s hG i_J z194 (by first | exact x_rbe e_z194 g_z194 rfl rfl | exact x_rb g_z194 rfl rfl | exact ⟨by omega, by omega⟩) z196 (by first | exact x_rbe e_z196 g_z196 rfl rfl | exact x_rb g_z196 rfl rfl | exact ⟨by omega, by omega⟩) z198 (by first | exact x_rbe e_z198 g_z198 rfl rfl | exact x_rb g_z198 rfl rfl | exact ⟨by omega, by omega⟩)) ?_)
        rintro s200 v ⟨hG_s200, t_s200, z199, rfl, g_z199⟩
        have q201 : s200 231 3 = x1000 := (t_s200 231 3 (show 2884 ∉ [3329, 3334, 3335, 3336, 3392, 3456, 3520, 3584, 3276, 3648, 3712, 3776, 3840, 3904, 3968, 3277, 4032] from by decide +kernel)).trans e_x1000.symm
        have q202 : s200 256 58 = x1001 := (t_s200 256 58 (show 4155 ∉ [3329, 3334, 3335, 3336, 3392, 3456, 3520, 3584, 3276, 3648, 3712, 3776, 3840, 3904, 3968, 3277, 4032] from by decide +kernel)).trans e_x1001.symm
        have J_s200 : J s200 := J.fl i_J t_s200 (by decide +kernel)
        show xe (some (N, xs)) 231 580 [(0, .ref 2000), (1, .ref 0), (2, .ref 256), (3, vi x3)] [vi z199] s200 295 10442 _
        refine x_A k231_580 (fun _ => rfl) ?_
        refine x_A k231_581 (fun _ => rfl) ?_
        refine x_A k231_582 (fun _ => rfl) ?_
        refine x_A k231_583 (fun _ => rfl) ?_
        refine x_A k231_584 (fun _ => rfl) ?_
        refine x_iadd k231_585 ?_
        refine x_top (fun z203 e_z203 => ?_)
        refine x_scr k231_586 hN ⟨by omega, by omega⟩ (fun z204 g_z204 e_z204 => ?_)
        unfold in32 at g_z204
        have q_z204 : z204 = z194 := by rw [e_z204, e_z194, show z203 = z193 by omega]
        refine x_A k231_587 (fun _ => rfl) ?_
        refine x_A k231_588 (fun _ => rfl) ?_
        refine x_A k231_589 (fun _ => rfl) ?_
        refine x_iadd k231_590 ?_
        refine x_top (fun z205 e_z205 => ?_)
        refine x_scr k231_591 hN ⟨by omega, by omega⟩ (fun z206 g_z206 e_z206 => ?_)
        unfold in32 at g_z206
        have q_z206 : z206 = z196 := by rw [e_z206, e_z196, show z205 = z195 by omega]
        refine x_A k231_592 (fun _ => rfl) ?_
        refine x_A k231_593 (fun _ => rfl) ?_
        refine x_A k231_594 (fun _ => rfl) ?_
        refine x_iadd k231_595 ?_
        refine x_top (fun z207 e_z207 => ?_)
        refine x_scr k231_596 hN ⟨by omega, by omega⟩ (fun z208 g_z208 e_z208 => ?_)
        unfold in32 at g_z208
        have q_z208 : z208 = z198 := by rw [e_z208, e_z198, show z207 = z197 by omega]
        refine x_callV k231_597 (y := 173) (n := 3) (w0 := 0) (w1 := 3) (as := [vi z204, vi z206, vi z208]) (rest := []) (by decide +kernel) (q := 256) (nq := 62) (kq := 15) ⟨by decide, rfl⟩ rfl rfl rfl rfl (xe_mono (C_X11_led_256 s200 hG_s200 J_s200 z204 (by first | exact x_rbe e_z204 g_z204 rfl rfl | exact x_rb g_z204 rfl rfl | exact ⟨by omega, by omega⟩) z206 (by first | exact x_rbe e_z206 g_z206 rfl rfl | exact x_rb g_z206 rfl rfl | exact ⟨by omega, by omega⟩) z208 (by first | exact x_rbe e_z208 g_z208 rfl rfl | exact x_rb g_z208 rfl rfl | exact ⟨by omega, by omega⟩)) ?_)
        rintro s210 v ⟨hG_s210, t_s210, z209, rfl, g_z209⟩
        have q211 : s210 231 3 = x1000 := (t_s210 231 3 (show 2884 ∉ [5312, 5376, 4123, 5440, 5504, 5568, 5632, 5696, 5760] from by decide +kernel)).trans q201
        have q212 : s210 256 58 = x1001 := (t_s210 256 58 (show 4155 ∉ [5312, 5376, 4123, 5440, 5504, 5568, 5632, 5696, 5760] from by decide +kernel)).trans q202
        have J_s210 : J s210 := J.fl J_s200 t_s210 (by decide +kernel)
        show xe (some (N, xs)) 231 600 [(0, .ref 2000), (1, .ref 0), (2, .ref 256), (3, vi x3)] [vi z209] s210 295 10442 _
        refine x_A k231_600 (fun _ => rfl) ?_
        refine x_goto k231_601 (t := 1300) rfl ?_
        refine x_iinc k231_1300 (ls' := [(3, vi (x3 + 7)), (0, .ref 2000), (1, .ref 0), (2, .ref 256)]) rfl (by decide) rfl ?_
        refine x_goto k231_1303 (t := 18) rfl ?_
        refine x_ls (l := [(0, .ref 2000), (1, .ref 0), (2, .ref 256), (3, vi (x3 + 7))]) (show ([0, 1, 2, 3] : List Nat).Nodup from by decide +kernel) ⟨rfl, rfl, rfl, rfl, trivial⟩ ?_
        exact ih s210 (x3 + 7) x1000 x1001 hG_s210 trivial ⟨by omega, by omega⟩ (by first | exact x_rb b_x1000 rfl rfl | exact ⟨by omega, by omega⟩) (by first | exact x_rb b_x1001 rfl rfl | exact ⟨by omega, by omega⟩) (by omega) (q211).symm (q212).symm J_s210  (by omega)
      · rw [c5]
        refine x_B k231_33 rfl (fun _ => rfl) (fun _ => rfl) (fun _ _ => rfl) ?_
        show xe (some (N, xs)) 231 604 [(0, .ref 2000), (1, .ref 0), (2, .ref 256), (3, vi x3)] [] s 295 10442 _
        refine x_A k231_604 (fun _ => rfl) ?_
        refine x_A k231_605 (fun _ => rfl) ?_
        refine x_A k231_606 (fun _ => rfl) ?_
        refine x_A k231_607 (fun _ => rfl) ?_
        refine x_iadd k231_608 ?_
        refine x_top (fun z213 e_z213 => ?_)
        refine x_scr k231_609 hN ⟨by omega, by omega⟩ (fun z214 g_z214 e_z214 => ?_)
        unfold in32 at g_z214
        refine x_callV k231_610 (y := 103) (n := 1) (w0 := 0) (w1 := 1) (as := [vi z214]) (rest := []) (by decide +kernel) (q := 0) (nq := 12) (kq := 3) ⟨by decide, rfl⟩ rfl rfl rfl rfl (xe_mono (C_X10_count_0 s hG i_J z214 (by first | exact x_rbe e_z214 g_z214 rfl rfl | exact x_rb g_z214 rfl rfl | exact ⟨by omega, by omega⟩)) ?_)
        rintro s216 v ⟨hG_s216, t_s216, z215, rfl, g_z215⟩
        have q217 : s216 231 3 = x1000 := (t_s216 231 3 (show 2884 ∉ [3329, 3334, 3335, 3336, 3392, 3456, 3520, 3584, 3276, 3648, 3712, 3776, 3840, 3904, 3968, 3277, 4032, 1921, 1926, 1927, 1928, 1984, 2048, 2112, 2176] from by decide +kernel)).trans e_x1000.symm
        have q218 : s216 256 58 = x1001 := (t_s216 256 58 (show 4155 ∉ [3329, 3334, 3335, 3336, 3392, 3456, 3520, 3584, 3276, 3648, 3712, 3776, 3840, 3904, 3968, 3277, 4032, 1921, 1926, 1927, 1928, 1984, 2048, 2112, 2176] from by decide +kernel)).trans e_x1001.symm
        have J_s216 : J s216 := J.fl i_J t_s216 (by decide +kernel)
        show xe (some (N, xs)) 231 613 [(0, .ref 2000), (1, .ref 0), (2, .ref 256), (3, vi x3)] [vi z215] s216 295 10442 _
        refine x_A k231_613 (fun _ => rfl) ?_
        refine x_A k231_614 (fun _ => rfl) ?_
        refine x_A k231_615 (fun _ => rfl) ?_
        refine x_A k231_616 (fun _ => rfl) ?_
        refine x_A k231_617 (fun _ => rfl) ?_
        refine x_iadd k231_618 ?_
        refine x_top (fun z219 e_z219 => ?_)
        refine x_scr k231_619 hN ⟨by omega, by omega⟩ (fun z220 g_z220 e_z220 => ?_)
        unfold in32 at g_z220
        have q_z220 : z220 = z214 := by rw [e_z220, e_z214, show z219 = z213 by omega]
        refine x_callV k231_620 (y := 174) (n := 1) (w0 := 0) (w1 := 1) (as := [vi z220]) (rest := []) (by decide +kernel) (q := 256) (nq := 62) (kq := 15) ⟨by decide, rfl⟩ rfl rfl rfl rfl (xe_mono (C_X11_count_256 s216 hG_s216 J_s216 z220 (by first | exact x_rbe e_z220 g_z220 rfl rfl | exact x_rb g_z220 rfl rfl | exact ⟨by omega, by omega⟩)) ?_)
        rintro s222 v ⟨hG_s222, t_s222, z221, rfl, g_z221⟩
        have q223 : s222 231 3 = x1000 := (t_s222 231 3 (show 2884 ∉ [5312, 5376, 4123, 5440, 5504, 5568, 5632, 5696, 5760] from by decide +kernel)).trans q217
        have q224 : s222 256 58 = x1001 := (t_s222 256 58 (show 4155 ∉ [5312, 5376, 4123, 5440, 5504, 5568, 5632, 5696, 5760] from by decide +kernel)).trans q218
        have J_s222 : J s222 := J.fl J_s216 t_s222 (by decide +kernel)
        show xe (some (N, xs)) 231 623 [(0, .ref 2000), (1, .ref 0), (2, .ref 256), (3, vi x3)] [vi z221] s222 295 10442 _
        refine x_A k231_623 (fun _ => rfl) ?_
        refine x_goto k231_624 (t := 1300) rfl ?_
        refine x_iinc k231_1300 (ls' := [(3, vi (x3 + 7)), (0, .ref 2000), (1, .ref 0), (2, .ref 256)]) rfl (by decide) rfl ?_
        refine x_goto k231_1303 (t := 18) rfl ?_
        refine x_ls (l := [(0, .ref 2000), (1, .ref 0), (2, .ref 256), (3, vi (x3 + 7))]) (show ([0, 1, 2, 3] : List Nat).Nodup from by decide +kernel) ⟨rfl, rfl, rfl, rfl, trivial⟩ ?_
        exact ih s222 (x3 + 7) x1000 x1001 hG_s222 trivial ⟨by omega, by omega⟩ (by first | exact x_rb b_x1000 rfl rfl | exact ⟨by omega, by omega⟩) (by first | exact x_rb b_x1001 rfl rfl | exact ⟨by omega, by omega⟩) (by omega) (q223).symm (q224).symm J_s222  (by omega)
      · rw [c5]
        refine x_B k231_33 rfl (fun _ => rfl) (fun _ => rfl) (fun _ _ => rfl) ?_
        show xe (some (N, xs)) 231 627 [(0, .ref 2000), (1, .ref 0), (2, .ref 256), (3, vi x3)] [] s 295 10442 _
        refine x_A k231_627 (fun _ => rfl) ?_
        refine x_A k231_628 (fun _ => rfl) ?_
        refine x_A k231_629 (fun _ => rfl) ?_
        refine x_A k231_630 (fun _ => rfl) ?_
        refine x_iadd k231_631 ?_
        refine x_top (fun z225 e_z225 => ?_)
        refine x_scr k231_632 hN ⟨by omega, by omega⟩ (fun z226 g_z226 e_z226 => ?_)
        unfold in32 at g_z226
        refine x_A k231_633 (fun _ => rfl) ?_
        refine x_A k231_634 (fun _ => rfl) ?_
        refine x_A k231_635 (fun _ => rfl) ?_
        refine x_iadd k231_636 ?_
        refine x_top (fun z227 e_z227 => ?_)
        refine x_scr k231_637 hN ⟨by omega, by omega⟩ (fun z228 g_z228 e_z228 => ?_)
        unfold in32 at g_z228
        refine x_i2l k231_638 (by first | exact x_rbe e_z228 g_z228 rfl rfl | exact x_rb g_z228 rfl rfl | exact ⟨by omega, by omega⟩) ?_
        refine x_bipush k231_639 (by decide +kernel) ?_
        refine x_lshl_any k231_641 (fun z229 b_z229 => ?_)
        refine x_A k231_642 (fun _ => rfl) ?_
        refine x_A k231_643 (fun _ => rfl) ?_
        refine x_A k231_644 (fun _ => rfl) ?_
        refine x_iadd k231_645 ?_
        refine x_top (fun z230 e_z230 => ?_)
        refine x_scr k231_646 hN ⟨by omega, by omega⟩ (fun z231 g_z231 e_z231 => ?_)
        unfold in32 at g_z231
        refine x_i2l k231_647 (by first | exact x_rbe e_z231 g_z231 rfl rfl | exact x_rb g_z231 rfl rfl | exact ⟨by omega, by omega⟩) ?_
        refine x_ldc2 k231_648 (z := 4294967295) rfl (by decide +kernel) ?_
        refine x_land_mask k231_651 ⟨by omega, by omega⟩ (fun z232 g_z232 => ?_)
        refine x_lor_any k231_652 (fun z233 b_z233 => ?_)
        refine x_callV k231_653 (y := 104) (n := 2) (w0 := 0) (w1 := 3) (as := [vi z226, vj z233]) (rest := []) (by decide +kernel) (q := 0) (nq := 12) (kq := 3) ⟨by decide, rfl⟩ rfl rfl rfl rfl (xe_mono (C_X10_feed_0 s hG z226 (by first | exact x_rbe e_z226 g_z226 rfl rfl | exact x_rb g_z226 rfl rfl | exact ⟨by omega, by omega⟩) z233 b_z233) ?_)
        rintro s235 v ⟨hG_s235, t_s235, z234, rfl, g_z234⟩
        have q236 : s235 231 3 = x1000 := (t_s235 231 3 (show 2884 ∉ [1218, 1280] from by decide +kernel)).trans e_x1000.symm
        have q237 : s235 256 58 = x1001 := (t_s235 256 58 (show 4155 ∉ [1218, 1280] from by decide +kernel)).trans e_x1001.symm
        have J_s235 : J s235 := J.fl i_J t_s235 (by decide +kernel)
        show xe (some (N, xs)) 231 656 [(0, .ref 2000), (1, .ref 0), (2, .ref 256), (3, vi x3)] [vi z234] s235 295 10442 _
        refine x_A k231_656 (fun _ => rfl) ?_
        refine x_A k231_657 (fun _ => rfl) ?_
        refine x_A k231_658 (fun _ => rfl) ?_
        refine x_A k231_659 (fun _ => rfl) ?_
        refine x_A k231_660 (fun _ => rfl) ?_
        refine x_iadd k231_661 ?_
        refine x_top (fun z238 e_z238 => ?_)
        refine x_scr k231_662 hN ⟨by omega, by omega⟩ (fun z239 g_z239 e_z239 => ?_)
        unfold in32 at g_z239
        have q_z239 : z239 = z226 := by rw [e_z239, e_z226, show z238 = z225 by omega]
        refine x_A k231_663 (fun _ => rfl) ?_
        refine x_A k231_664 (fun _ => rfl) ?_
        refine x_A k231_665 (fun _ => rfl) ?_
        refine x_iadd k231_666 ?_
        refine x_top (fun z240 e_z240 => ?_)
        refine x_scr k231_667 hN ⟨by omega, by omega⟩ (fun z241 g_z241 e_z241 => ?_)
        unfold in32 at g_z241
        have q_z241 : z241 = z228 := by rw [e_z241, e_z228, show z240 = z227 by omega]
        refine x_i2l k231_668 (by first | exact x_rbe e_z241 g_z241 rfl rfl | exact x_rb g_z241 rfl rfl | exact ⟨by omega, by omega⟩) ?_
        refine x_bipush k231_669 (by decide +kernel) ?_
        refine x_lshl_any k231_671 (fun z242 b_z242 => ?_)
        refine x_A k231_672 (fun _ => rfl) ?_
        refine x_A k231_673 (fun _ => rfl) ?_
        refine x_A k231_674 (fun _ => rfl) ?_
        refine x_iadd k231_675 ?_
        refine x_top (fun z243 e_z243 => ?_)
        refine x_scr k231_676 hN ⟨by omega, by omega⟩ (fun z244 g_z244 e_z244 => ?_)
        unfold in32 at g_z244
        have q_z244 : z244 = z231 := by rw [e_z244, e_z231, show z243 = z230 by omega]
        refine x_i2l k231_677 (by first | exact x_rbe e_z244 g_z244 rfl rfl | exact x_rb g_z244 rfl rfl | exact ⟨by omega, by omega⟩) ?_
        refine x_ldc2 k231_678 (z := 4294967295) rfl (by decide +kernel) ?_
        refine x_land_mask k231_681 ⟨by omega, by omega⟩ (fun z245 g_z245 => ?_)
        refine x_lor_any k231_682 (fun z246 b_z246 => ?_)
        refine x_callV k231_683 (y := 175) (n := 2) (w0 := 0) (w1 := 3) (as := [vi z239, vj z246]) (rest := []) (by decide +kernel) (q := 256) (nq := 62) (kq := 15) ⟨by decide, rfl⟩ rfl rfl rfl rfl (xe_mono (C_X11_feed_256 s235 hG_s235 z239 (by first | exact x_rbe e_z239 g_z239 rfl rfl | exact x_rb g_z239 rfl rfl | exact ⟨by omega, by omega⟩) z246 b_z246) ?_)
        rintro s248 v ⟨hG_s248, t_s248, z247, rfl, g_z247⟩
        have q249 : s248 231 3 = x1000 := (t_s248 231 3 (show 2884 ∉ [4131, 5824] from by decide +kernel)).trans q236
        have q250 : s248 256 58 = x1001 := (t_s248 256 58 (show 4155 ∉ [4131, 5824] from by decide +kernel)).trans q237
        have J_s248 : J s248 := J.fl J_s235 t_s248 (by decide +kernel)
        show xe (some (N, xs)) 231 686 [(0, .ref 2000), (1, .ref 0), (2, .ref 256), (3, vi x3)] [vi z247] s248 295 10442 _
        refine x_A k231_686 (fun _ => rfl) ?_
        refine x_goto k231_687 (t := 1300) rfl ?_
        refine x_iinc k231_1300 (ls' := [(3, vi (x3 + 7)), (0, .ref 2000), (1, .ref 0), (2, .ref 256)]) rfl (by decide) rfl ?_
        refine x_goto k231_1303 (t := 18) rfl ?_
        refine x_ls (l := [(0, .ref 2000), (1, .ref 0), (2, .ref 256), (3, vi (x3 + 7))]) (show ([0, 1, 2, 3] : List Nat).Nodup from by decide +kernel) ⟨rfl, rfl, rfl, rfl, trivial⟩ ?_
        exact ih s248 (x3 + 7) x1000 x1001 hG_s248 trivial ⟨by omega, by omega⟩ (by first | exact x_rb b_x1000 rfl rfl | exact ⟨by omega, by omega⟩) (by first | exact x_rb b_x1001 rfl rfl | exact ⟨by omega, by omega⟩) (by omega) (q249).symm (q250).symm J_s248  (by omega)
      · rw [c5]
        refine x_B k231_33 rfl (fun _ => rfl) (fun _ => rfl) (fun _ _ => rfl) ?_
        show xe (some (N, xs)) 231 690 [(0, .ref 2000), (1, .ref 0), (2, .ref 256), (3, vi x3)] [] s 295 10442 _
        refine x_A k231_690 (fun _ => rfl) ?_
        refine x_A k231_691 (fun _ => rfl) ?_
        refine x_A k231_692 (fun _ => rfl) ?_
        refine x_A k231_693 (fun _ => rfl) ?_
        refine x_iadd k231_694 ?_
        refine x_top (fun z251 e_z251 => ?_)
        refine x_scr k231_695 hN ⟨by omega, by omega⟩ (fun z252 g_z252 e_z252 => ?_)
        unfold in32 at g_z252
        refine x_callV k231_696 (y := 105) (n := 1) (w0 := 0) (w1 := 1) (as := [vi z252]) (rest := []) (by decide +kernel) (q := 0) (nq := 12) (kq := 3) ⟨by decide, rfl⟩ rfl rfl rfl rfl (xe_mono (C_X10_rule_0 s hG z252 (by first | exact x_rbe e_z252 g_z252 rfl rfl | exact x_rb g_z252 rfl rfl | exact ⟨by omega, by omega⟩) i_J) ?_)
        rintro s254 v ⟨hG_s254, t_s254, z253, rfl, g_z253, J_s254⟩
        have q255 : s254 231 3 = x1000 := (t_s254 231 3 (show 2884 ∉ [1219, 1220, 1221, 1222, 1223, 1600, 1728, 1856, 1408, 1472, 1350, 3276, 3277, 12, 1218] from by decide +kernel)).trans e_x1000.symm
        have q256 : s254 256 58 = x1001 := (t_s254 256 58 (show 4155 ∉ [1219, 1220, 1221, 1222, 1223, 1600, 1728, 1856, 1408, 1472, 1350, 3276, 3277, 12, 1218] from by decide +kernel)).trans e_x1001.symm
        show xe (some (N, xs)) 231 699 [(0, .ref 2000), (1, .ref 0), (2, .ref 256), (3, vi x3)] [vi z253] s254 295 10442 _
        refine x_A k231_699 (fun _ => rfl) ?_
        refine x_A k231_700 (fun _ => rfl) ?_
        refine x_A k231_701 (fun _ => rfl) ?_
        refine x_A k231_702 (fun _ => rfl) ?_
        refine x_A k231_703 (fun _ => rfl) ?_
        refine x_iadd k231_704 ?_
        refine x_top (fun z257 e_z257 => ?_)
        refine x_scr k231_705 hN ⟨by omega, by omega⟩ (fun z258 g_z258 e_z258 => ?_)
        unfold in32 at g_z258
        have q_z258 : z258 = z252 := by rw [e_z258, e_z252, show z257 = z251 by omega]
        obtain ⟨z259, e_z259⟩ : ∃ z, z = s254 256 20 := ⟨_, rfl⟩
        have g_z259 : (0 : Int) ≤ s254 256 20 ∧ s254 256 20 ≤ 64 := hG_s254 256 20
        obtain ⟨z260, e_z260⟩ : ∃ z, z = s254 256 17 := ⟨_, rfl⟩
        have g_z260 : (0 : Int) ≤ s254 256 17 ∧ s254 256 17 ≤ 8 := hG_s254 256 17
        refine x_callV k231_706 (y := 187) (n := 1) (w0 := 0) (w1 := 1) (as := [vi z258]) (rest := []) (by decide +kernel) (q := 256) (nq := 62) (kq := 15) ⟨by decide, rfl⟩ rfl rfl rfl rfl (xe_mono (C_X11_rule_256 s254 hG_s254 z258 (by first | exact x_rbe e_z258 g_z258 rfl rfl | exact x_rb g_z258 rfl rfl | exact ⟨by omega, by omega⟩) ⟨by omega, by omega⟩ ⟨by omega, by omega⟩ J_s254) ?_)
        rintro s262 v ⟨hG_s262, t_s262, z261, rfl, g_z261, J_s262⟩
        have q263 : s262 231 3 = x1000 := (t_s262 231 3 (show 2884 ∉ [4133, 4136, 4132, 4134, 4135, 5120, 5184, 5248, 4131, 4992, 5056, 4117, 4114] from by decide +kernel)).trans q255
        have q264 : s262 256 58 = x1001 := (t_s262 256 58 (show 4155 ∉ [4133, 4136, 4132, 4134, 4135, 5120, 5184, 5248, 4131, 4992, 5056, 4117, 4114] from by decide +kernel)).trans q256
        show xe (some (N, xs)) 231 709 [(0, .ref 2000), (1, .ref 0), (2, .ref 256), (3, vi x3)] [vi z261] s262 295 10442 _
        refine x_A k231_709 (fun _ => rfl) ?_
        refine x_goto k231_710 (t := 1300) rfl ?_
        refine x_iinc k231_1300 (ls' := [(3, vi (x3 + 7)), (0, .ref 2000), (1, .ref 0), (2, .ref 256)]) rfl (by decide) rfl ?_
        refine x_goto k231_1303 (t := 18) rfl ?_
        refine x_ls (l := [(0, .ref 2000), (1, .ref 0), (2, .ref 256), (3, vi (x3 + 7))]) (show ([0, 1, 2, 3] : List Nat).Nodup from by decide +kernel) ⟨rfl, rfl, rfl, rfl, trivial⟩ ?_
        exact ih s262 (x3 + 7) x1000 x1001 hG_s262 trivial ⟨by omega, by omega⟩ (by first | exact x_rb b_x1000 rfl rfl | exact ⟨by omega, by omega⟩) (by first | exact x_rb b_x1001 rfl rfl | exact ⟨by omega, by omega⟩) (by omega) (q263).symm (q264).symm J_s262  (by omega)
      · rw [c5]
        refine x_B k231_33 rfl (fun _ => rfl) (fun _ => rfl) (fun _ _ => rfl) ?_
        show xe (some (N, xs)) 231 713 [(0, .ref 2000), (1, .ref 0), (2, .ref 256), (3, vi x3)] [] s 295 10442 _
        refine x_A k231_713 (fun _ => rfl) ?_
        refine x_callV k231_714 (y := 106) (n := 0) (w0 := 0) (w1 := 0) (as := []) (rest := []) (by decide +kernel) (q := 0) (nq := 12) (kq := 3) ⟨by decide, rfl⟩ rfl rfl rfl rfl (xe_mono (C_X10_fault_0 s hG) ?_)
        rintro s266 v ⟨-, t_s266, z265, rfl, g_z265⟩
        rw [t_s266.nil]
        show xe (some (N, xs)) 231 717 [(0, .ref 2000), (1, .ref 0), (2, .ref 256), (3, vi x3)] [vi z265] s 295 10442 _
        refine x_A k231_717 (fun _ => rfl) ?_
        refine x_A k231_718 (fun _ => rfl) ?_
        refine x_callV k231_719 (y := 188) (n := 0) (w0 := 0) (w1 := 0) (as := []) (rest := []) (by decide +kernel) (q := 256) (nq := 62) (kq := 15) ⟨by decide, rfl⟩ rfl rfl rfl rfl (xe_mono (C_X11_fault_256 s hG) ?_)
        rintro s268 v ⟨-, t_s268, z267, rfl, g_z267⟩
        rw [t_s268.nil]
        show xe (some (N, xs)) 231 722 [(0, .ref 2000), (1, .ref 0), (2, .ref 256), (3, vi x3)] [vi z267] s 295 10442 _
        refine x_A k231_722 (fun _ => rfl) ?_
        refine x_goto k231_723 (t := 1300) rfl ?_
        refine x_iinc k231_1300 (ls' := [(3, vi (x3 + 7)), (0, .ref 2000), (1, .ref 0), (2, .ref 256)]) rfl (by decide) rfl ?_
        refine x_goto k231_1303 (t := 18) rfl ?_
        refine x_ls (l := [(0, .ref 2000), (1, .ref 0), (2, .ref 256), (3, vi (x3 + 7))]) (show ([0, 1, 2, 3] : List Nat).Nodup from by decide +kernel) ⟨rfl, rfl, rfl, rfl, trivial⟩ ?_
        exact ih s (x3 + 7) x1000 x1001 hG f ⟨by omega, by omega⟩ (by first | exact x_rb b_x1000 rfl rfl | exact ⟨by omega, by omega⟩) (by first | exact x_rb b_x1001 rfl rfl | exact ⟨by omega, by omega⟩) (by omega) (e_x1000.symm).symm (e_x1001.symm).symm i_J  (by omega)
      · rw [c5]
        refine x_B k231_33 rfl (fun _ => rfl) (fun _ => rfl) (fun _ _ => rfl) ?_
        show xe (some (N, xs)) 231 726 [(0, .ref 2000), (1, .ref 0), (2, .ref 256), (3, vi x3)] [] s 295 10442 _
        refine x_A k231_726 (fun _ => rfl) ?_
        refine x_A k231_727 (fun _ => rfl) ?_
        refine x_A k231_728 (fun _ => rfl) ?_
        refine x_A k231_729 (fun _ => rfl) ?_
        refine x_iadd k231_730 ?_
        refine x_top (fun z269 e_z269 => ?_)
        refine x_scr k231_731 hN ⟨by omega, by omega⟩ (fun z270 g_z270 e_z270 => ?_)
        unfold in32 at g_z270
        refine x_A k231_732 (fun _ => rfl) ?_
        refine x_A k231_733 (fun _ => rfl) ?_
        refine x_A k231_734 (fun _ => rfl) ?_
        refine x_iadd k231_735 ?_
        refine x_top (fun z271 e_z271 => ?_)
        refine x_scr k231_736 hN ⟨by omega, by omega⟩ (fun z272 g_z272 e_z272 => ?_)
        unfold in32 at g_z272
        refine x_callV k231_737 (y := 107) (n := 2) (w0 := 0) (w1 := 2) (as := [vi z270, vi z272]) (rest := []) (by decide +kernel) (q := 0) (nq := 12) (kq := 3) ⟨by decide, rfl⟩ rfl rfl rfl rfl (xe_mono (C_X10_force_0 s hG i_J z270 (by first | exact x_rbe e_z270 g_z270 rfl rfl | exact x_rb g_z270 rfl rfl | exact ⟨by omega, by omega⟩) z272 (by first | exact x_rbe e_z272 g_z272 rfl rfl | exact x_rb g_z272 rfl rfl | exact ⟨by omega, by omega⟩)) ?_)
        rintro s274 v ⟨hG_s274, t_s274, z273, rfl, g_z273⟩
        have q275 : s274 231 3 = x1000 := (t_s274 231 3 (show 2884 ∉ [1921, 1926, 1927, 1928, 1984, 2048, 2112, 2176] from by decide +kernel)).trans e_x1000.symm
        have q276 : s274 256 58 = x1001 := (t_s274 256 58 (show 4155 ∉ [1921, 1926, 1927, 1928, 1984, 2048, 2112, 2176] from by decide +kernel)).trans e_x1001.symm
        have J_s274 : J s274 := J.fl i_J t_s274 (by decide +kernel)
        show xe (some (N, xs)) 231 740 [(0, .ref 2000), (1, .ref 0), (2, .ref 256), (3, vi x3)] [vi z273] s274 295 10442 _
        refine x_A k231_740 (fun _ => rfl) ?_
        refine x_A k231_741 (fun _ => rfl) ?_
        refine x_A k231_742 (fun _ => rfl) ?_
        refine x_A k231_743 (fun _ => rfl) ?_
        refine x_A k231_744 (fun _ => rfl) ?_
        refine x_iadd k231_745 ?_
        refine x_top (fun z277 e_z277 => ?_)
        refine x_scr k231_746 hN ⟨by omega, by omega⟩ (fun z278 g_z278 e_z278 => ?_)
        unfold in32 at g_z278
        have q_z278 : z278 = z270 := by rw [e_z278, e_z270, show z277 = z269 by omega]
        refine x_A k231_747 (fun _ => rfl) ?_
        refine x_A k231_748 (fun _ => rfl) ?_
        refine x_A k231_749 (fun _ => rfl) ?_
        refine x_iadd k231_750 ?_
        refine x_top (fun z279 e_z279 => ?_)
        refine x_scr k231_751 hN ⟨by omega, by omega⟩ (fun z280 g_z280 e_z280 => ?_)
        unfold in32 at g_z280
        have q_z280 : z280 = z272 := by rw [e_z280, e_z272, show z279 = z271 by omega]
        refine x_callV k231_752 (y := 189) (n := 2) (w0 := 0) (w1 := 2) (as := [vi z278, vi z280]) (rest := []) (by decide +kernel) (q := 256) (nq := 62) (kq := 15) ⟨by decide, rfl⟩ rfl rfl rfl rfl (xe_mono (C_X11_force_256 s274 hG_s274 J_s274 z278 (by first | exact x_rbe e_z278 g_z278 rfl rfl | exact x_rb g_z278 rfl rfl | exact ⟨by omega, by omega⟩) z280 (by first | exact x_rbe e_z280 g_z280 rfl rfl | exact x_rb g_z280 rfl rfl | exact ⟨by omega, by omega⟩)) ?_)
        rintro s282 v ⟨hG_s282, t_s282, z281, rfl, g_z281⟩
        have q283 : s282 231 3 = x1000 := (t_s282 231 3 (show 2884 ∉ [5312, 5376, 4123] from by decide +kernel)).trans q275
        have q284 : s282 256 58 = x1001 := (t_s282 256 58 (show 4155 ∉ [5312, 5376, 4123] from by decide +kernel)).trans q276
        have J_s282 : J s282 := J.fl J_s274 t_s282 (by decide +kernel)
        show xe (some (N, xs)) 231 755 [(0, .ref 2000), (1, .ref 0), (2, .ref 256), (3, vi x3)] [vi z281] s282 295 10442 _
        refine x_A k231_755 (fun _ => rfl) ?_
        refine x_goto k231_756 (t := 1300) rfl ?_
        refine x_iinc k231_1300 (ls' := [(3, vi (x3 + 7)), (0, .ref 2000), (1, .ref 0), (2, .ref 256)]) rfl (by decide) rfl ?_
        refine x_goto k231_1303 (t := 18) rfl ?_
        refine x_ls (l := [(0, .ref 2000), (1, .ref 0), (2, .ref 256), (3, vi (x3 + 7))]) (show ([0, 1, 2, 3] : List Nat).Nodup from by decide +kernel) ⟨rfl, rfl, rfl, rfl, trivial⟩ ?_
        exact ih s282 (x3 + 7) x1000 x1001 hG_s282 trivial ⟨by omega, by omega⟩ (by first | exact x_rb b_x1000 rfl rfl | exact ⟨by omega, by omega⟩) (by first | exact x_rb b_x1001 rfl rfl | exact ⟨by omega, by omega⟩) (by omega) (q283).symm (q284).symm J_s282  (by omega)
      · rw [c5]
        refine x_B k231_33 rfl (fun _ => rfl) (fun _ => rfl) (fun _ _ => rfl) ?_
        show xe (some (N, xs)) 231 759 [(0, .ref 2000), (1, .ref 0), (2, .ref 256), (3, vi x3)] [] s 295 10442 _
        refine x_A k231_759 (fun _ => rfl) ?_
        refine x_A k231_760 (fun _ => rfl) ?_
        refine x_A k231_761 (fun _ => rfl) ?_
        refine x_A k231_762 (fun _ => rfl) ?_
        refine x_iadd k231_763 ?_
        refine x_top (fun z285 e_z285 => ?_)
        refine x_scr k231_764 hN ⟨by omega, by omega⟩ (fun z286 g_z286 e_z286 => ?_)
        unfold in32 at g_z286
        refine x_A k231_765 (fun _ => rfl) ?_
        refine x_A k231_766 (fun _ => rfl) ?_
        refine x_A k231_767 (fun _ => rfl) ?_
        refine x_iadd k231_768 ?_
        refine x_top (fun z287 e_z287 => ?_)
        refine x_scr k231_769 hN ⟨by omega, by omega⟩ (fun z288 g_z288 e_z288 => ?_)
        unfold in32 at g_z288
        refine x_A k231_770 (fun _ => rfl) ?_
        refine x_A k231_771 (fun _ => rfl) ?_
        refine x_A k231_772 (fun _ => rfl) ?_
        refine x_iadd k231_773 ?_
        refine x_top (fun z289 e_z289 => ?_)
        refine x_scr k231_774 hN ⟨by omega, by omega⟩ (fun z290 g_z290 e_z290 => ?_)
        unfold in32 at g_z290
        refine x_callV k231_775 (y := 108) (n := 3) (w0 := 0) (w1 := 3) (as := [vi z286, vi z288, vi z290]) (rest := []) (by decide +kernel) (q := 0) (nq := 12) (kq := 3) ⟨by decide, rfl⟩ rfl rfl rfl rfl (xe_mono (C_X10_word_0 s hG z286 (by first | exact x_rbe e_z286 g_z286 rfl rfl | exact x_rb g_z286 rfl rfl | exact ⟨by omega, by omega⟩) z288 (by first | exact x_rbe e_z288 g_z288 rfl rfl | exact x_rb g_z288 rfl rfl | exact ⟨by omega, by omega⟩) z290 (by first | exact x_rbe e_z290 g_z290 rfl rfl | exact x_rb g_z290 rfl rfl | exact ⟨by omega, by omega⟩)) ?_)
        rintro s292 v ⟨hG_s292, t_s292, z291, rfl, g_z291⟩
        have q293 : s292 231 3 = x1000 := (t_s292 231 3 (show 2884 ∉ [2244, 2304, 2368, 2432] from by decide +kernel)).trans e_x1000.symm
        have q294 : s292 256 58 = x1001 := (t_s292 256 58 (show 4155 ∉ [2244, 2304, 2368, 2432] from by decide +kernel)).trans e_x1001.symm
        have J_s292 : J s292 := J.fl i_J t_s292 (by decide +kernel)
        show xe (some (N, xs)) 231 778 [(0, .ref 2000), (1, .ref 0), (2, .ref 256), (3, vi x3)] [vi z291] s292 295 10442 _
        refine x_A k231_778 (fun _ => rfl) ?_
        refine x_A k231_779 (fun _ => rfl) ?_
        refine x_A k231_780 (fun _ => rfl) ?_
        refine x_A k231_781 (fun _ => rfl) ?_
        refine x_A k231_782 (fun _ => rfl) ?_
        refine x_iadd k231_783 ?_
        refine x_top (fun z295 e_z295 => ?_)
        refine x_scr k231_784 hN ⟨by omega, by omega⟩ (fun z296 g_z296 e_z296 => ?_)
        unfold in32 at g_z296
        have q_z296 : z296 = z286 := by rw [e_z296, e_z286, show z295 = z285 by omega]
        refine x_A k231_785 (fun _ => rfl) ?_
        refine x_A k231_786 (fun _ => rfl) ?_
        refine x_A k231_787 (fun _ => rfl) ?_
        refine x_iadd k231_788 ?_
        refine x_top (fun z297 e_z297 => ?_)
        refine x_scr k231_789 hN ⟨by omega, by omega⟩ (fun z298 g_z298 e_z298 => ?_)
        unfold in32 at g_z298
        have q_z298 : z298 = z288 := by rw [e_z298, e_z288, show z297 = z287 by omega]
        refine x_A k231_790 (fun _ => rfl) ?_
        refine x_A k231_791 (fun _ => rfl) ?_
        refine x_A k231_792 (fun _ => rfl) ?_
        refine x_iadd k231_793 ?_
        refine x_top (fun z299 e_z299 => ?_)
        refine x_scr k231_794 hN ⟨by omega, by omega⟩ (fun z300 g_z300 e_z300 => ?_)
        unfold in32 at g_z300
        have q_z300 : z300 = z290 := by rw [e_z300, e_z290, show z299 = z289 by omega]
        refine x_callV k231_795 (y := 192) (n := 3) (w0 := 0) (w1 := 3) (as := [vi z296, vi z298, vi z300]) (rest := []) (by decide +kernel) (q := 256) (nq := 62) (kq := 15) ⟨by decide, rfl⟩ rfl rfl rfl rfl (xe_mono (C_X11_word_256 s292 hG_s292 z296 (by first | exact x_rbe e_z296 g_z296 rfl rfl | exact x_rb g_z296 rfl rfl | exact ⟨by omega, by omega⟩) z298 (by first | exact x_rbe e_z298 g_z298 rfl rfl | exact x_rb g_z298 rfl rfl | exact ⟨by omega, by omega⟩) z300 (by first | exact x_rbe e_z300 g_z300 rfl rfl | exact x_rb g_z300 rfl rfl | exact ⟨by omega, by omega⟩)) ?_)
        rintro s302 v ⟨hG_s302, t_s302, z301, rfl, g_z301⟩
        have q303 : s302 231 3 = x1000 := (t_s302 231 3 (show 2884 ∉ [4137, 5888, 5952] from by decide +kernel)).trans q293
        have q304 : s302 256 58 = x1001 := (t_s302 256 58 (show 4155 ∉ [4137, 5888, 5952] from by decide +kernel)).trans q294
        have J_s302 : J s302 := J.fl J_s292 t_s302 (by decide +kernel)
        show xe (some (N, xs)) 231 798 [(0, .ref 2000), (1, .ref 0), (2, .ref 256), (3, vi x3)] [vi z301] s302 295 10442 _
        refine x_A k231_798 (fun _ => rfl) ?_
        refine x_goto k231_799 (t := 1300) rfl ?_
        refine x_iinc k231_1300 (ls' := [(3, vi (x3 + 7)), (0, .ref 2000), (1, .ref 0), (2, .ref 256)]) rfl (by decide) rfl ?_
        refine x_goto k231_1303 (t := 18) rfl ?_
        refine x_ls (l := [(0, .ref 2000), (1, .ref 0), (2, .ref 256), (3, vi (x3 + 7))]) (show ([0, 1, 2, 3] : List Nat).Nodup from by decide +kernel) ⟨rfl, rfl, rfl, rfl, trivial⟩ ?_
        exact ih s302 (x3 + 7) x1000 x1001 hG_s302 trivial ⟨by omega, by omega⟩ (by first | exact x_rb b_x1000 rfl rfl | exact ⟨by omega, by omega⟩) (by first | exact x_rb b_x1001 rfl rfl | exact ⟨by omega, by omega⟩) (by omega) (q303).symm (q304).symm J_s302  (by omega)
      · rw [c5]
        refine x_B k231_33 rfl (fun _ => rfl) (fun _ => rfl) (fun _ _ => rfl) ?_
        show xe (some (N, xs)) 231 802 [(0, .ref 2000), (1, .ref 0), (2, .ref 256), (3, vi x3)] [] s 295 10442 _
        refine x_A k231_802 (fun _ => rfl) ?_
        refine x_A k231_803 (fun _ => rfl) ?_
        refine x_A k231_804 (fun _ => rfl) ?_
        refine x_A k231_805 (fun _ => rfl) ?_
        refine x_iadd k231_806 ?_
        refine x_top (fun z305 e_z305 => ?_)
        refine x_scr k231_807 hN ⟨by omega, by omega⟩ (fun z306 g_z306 e_z306 => ?_)
        unfold in32 at g_z306
        refine x_A k231_808 (fun _ => rfl) ?_
        refine x_A k231_809 (fun _ => rfl) ?_
        refine x_A k231_810 (fun _ => rfl) ?_
        refine x_iadd k231_811 ?_
        refine x_top (fun z307 e_z307 => ?_)
        refine x_scr k231_812 hN ⟨by omega, by omega⟩ (fun z308 g_z308 e_z308 => ?_)
        unfold in32 at g_z308
        refine x_callV k231_813 (y := 109) (n := 2) (w0 := 0) (w1 := 2) (as := [vi z306, vi z308]) (rest := []) (by decide +kernel) (q := 0) (nq := 12) (kq := 3) ⟨by decide, rfl⟩ rfl rfl rfl rfl (xe_mono (C_X10_leads_0 s hG z306 (by first | exact x_rbe e_z306 g_z306 rfl rfl | exact x_rb g_z306 rfl rfl | exact ⟨by omega, by omega⟩) z308 (by first | exact x_rbe e_z308 g_z308 rfl rfl | exact x_rb g_z308 rfl rfl | exact ⟨by omega, by omega⟩)) ?_)
        rintro s310 v ⟨-, t_s310, z309, rfl, g_z309⟩
        rw [t_s310.nil]
        show xe (some (N, xs)) 231 816 [(0, .ref 2000), (1, .ref 0), (2, .ref 256), (3, vi x3)] [vi z309] s 295 10442 _
        refine x_A k231_816 (fun _ => rfl) ?_
        refine x_A k231_817 (fun _ => rfl) ?_
        refine x_A k231_818 (fun _ => rfl) ?_
        refine x_A k231_819 (fun _ => rfl) ?_
        refine x_A k231_820 (fun _ => rfl) ?_
        refine x_iadd k231_821 ?_
        refine x_top (fun z311 e_z311 => ?_)
        refine x_scr k231_822 hN ⟨by omega, by omega⟩ (fun z312 g_z312 e_z312 => ?_)
        unfold in32 at g_z312
        have q_z312 : z312 = z306 := by rw [e_z312, e_z306, show z311 = z305 by omega]
        refine x_A k231_823 (fun _ => rfl) ?_
        refine x_A k231_824 (fun _ => rfl) ?_
        refine x_A k231_825 (fun _ => rfl) ?_
        refine x_iadd k231_826 ?_
        refine x_top (fun z313 e_z313 => ?_)
        refine x_scr k231_827 hN ⟨by omega, by omega⟩ (fun z314 g_z314 e_z314 => ?_)
        unfold in32 at g_z314
        have q_z314 : z314 = z308 := by rw [e_z314, e_z308, show z313 = z307 by omega]
        refine x_callV k231_828 (y := 193) (n := 2) (w0 := 0) (w1 := 2) (as := [vi z312, vi z314]) (rest := []) (by decide +kernel) (q := 256) (nq := 62) (kq := 15) ⟨by decide, rfl⟩ rfl rfl rfl rfl (xe_mono (C_X11_leads_256 s hG z312 (by first | exact x_rbe e_z312 g_z312 rfl rfl | exact x_rb g_z312 rfl rfl | exact ⟨by omega, by omega⟩) z314 (by first | exact x_rbe e_z314 g_z314 rfl rfl | exact x_rb g_z314 rfl rfl | exact ⟨by omega, by omega⟩)) ?_)
        rintro s316 v ⟨-, t_s316, z315, rfl, g_z315⟩
        rw [t_s316.nil]
        show xe (some (N, xs)) 231 831 [(0, .ref 2000), (1, .ref 0), (2, .ref 256), (3, vi x3)] [vi z315] s 295 10442 _
        refine x_A k231_831 (fun _ => rfl) ?_
        refine x_goto k231_832 (t := 1300) rfl ?_
        refine x_iinc k231_1300 (ls' := [(3, vi (x3 + 7)), (0, .ref 2000), (1, .ref 0), (2, .ref 256)]) rfl (by decide) rfl ?_
        refine x_goto k231_1303 (t := 18) rfl ?_
        refine x_ls (l := [(0, .ref 2000), (1, .ref 0), (2, .ref 256), (3, vi (x3 + 7))]) (show ([0, 1, 2, 3] : List Nat).Nodup from by decide +kernel) ⟨rfl, rfl, rfl, rfl, trivial⟩ ?_
        exact ih s (x3 + 7) x1000 x1001 hG f ⟨by omega, by omega⟩ (by first | exact x_rb b_x1000 rfl rfl | exact ⟨by omega, by omega⟩) (by first | exact x_rb b_x1001 rfl rfl | exact ⟨by omega, by omega⟩) (by omega) (e_x1000.symm).symm (e_x1001.symm).symm i_J  (by omega)
      · rw [c5]
        refine x_B k231_33 rfl (fun _ => rfl) (fun _ => rfl) (fun _ _ => rfl) ?_
        show xe (some (N, xs)) 231 835 [(0, .ref 2000), (1, .ref 0), (2, .ref 256), (3, vi x3)] [] s 295 10442 _
        refine x_A k231_835 (fun _ => rfl) ?_
        refine x_callV k231_836 (y := 110) (n := 0) (w0 := 0) (w1 := 0) (as := []) (rest := []) (by decide +kernel) (q := 0) (nq := 12) (kq := 3) ⟨by decide, rfl⟩ rfl rfl rfl rfl (xe_mono (C_X10_ask_0 s hG) ?_)
        rintro s318 v ⟨hG_s318, t_s318, z317, rfl, g_z317⟩
        have q319 : s318 231 3 = x1000 := (t_s318 231 3 (show 2884 ∉ [2501, 2502, 2560, 2688, 2816, 1219, 1220, 1221, 1222, 1223, 2503, 12, 1218] from by decide +kernel)).trans e_x1000.symm
        have q320 : s318 256 58 = x1001 := (t_s318 256 58 (show 4155 ∉ [2501, 2502, 2560, 2688, 2816, 1219, 1220, 1221, 1222, 1223, 2503, 12, 1218] from by decide +kernel)).trans e_x1001.symm
        have J_s318 : J s318 := J.fl i_J t_s318 (by decide +kernel)
        show xe (some (N, xs)) 231 839 [(0, .ref 2000), (1, .ref 0), (2, .ref 256), (3, vi x3)] [vi z317] s318 295 10442 _
        refine x_A k231_839 (fun _ => rfl) ?_
        refine x_A k231_840 (fun _ => rfl) ?_
        obtain ⟨z321, e_z321⟩ : ∃ z, z = s318 256 47 := ⟨_, rfl⟩
        have g_z321 : (0 : Int) ≤ s318 256 47 ∧ s318 256 47 ≤ 110 := hG_s318 256 47
        obtain ⟨z322, e_z322⟩ : ∃ z, z = s318 256 48 := ⟨_, rfl⟩
        have g_z322 : (0 : Int) ≤ s318 256 48 ∧ s318 256 48 ≤ 120 := hG_s318 256 48
        obtain ⟨z323, e_z323⟩ : ∃ z, z = s318 256 36 := ⟨_, rfl⟩
        have g_z323 : (0 : Int) ≤ s318 256 36 ∧ s318 256 36 ≤ 160 := hG_s318 256 36
        obtain ⟨z324, e_z324⟩ : ∃ z, z = s318 256 34 := ⟨_, rfl⟩
        have g_z324 : (0 : Int) ≤ s318 256 34 ∧ s318 256 34 ≤ 160 := hG_s318 256 34
        obtain ⟨z325, e_z325⟩ : ∃ z, z = s318 256 43 := ⟨_, rfl⟩
        have g_z325 : (0 : Int) ≤ s318 256 43 ∧ s318 256 43 ≤ 8 := hG_s318 256 43
        obtain ⟨z326, e_z326⟩ : ∃ z, z = s318 256 50 := ⟨_, rfl⟩
        have g_z326 : (0 : Int) ≤ s318 256 50 ∧ s318 256 50 ≤ 5 := hG_s318 256 50
        obtain ⟨z327, e_z327⟩ : ∃ z, z = s318 256 51 := ⟨_, rfl⟩
        have g_z327 : (0 : Int) ≤ s318 256 51 ∧ s318 256 51 ≤ 1 := hG_s318 256 51
        refine x_callV k231_841 (y := 200) (n := 0) (w0 := 0) (w1 := 0) (as := []) (rest := []) (by decide +kernel) (q := 256) (nq := 62) (kq := 15) ⟨by decide, rfl⟩ rfl rfl rfl rfl (xe_mono (C_X11_ask_256 s318 hG_s318 ⟨by omega, by omega⟩ ⟨by omega, by omega⟩ ⟨by omega, by omega⟩ ⟨by omega, by omega⟩ ⟨by omega, by omega⟩ ⟨by omega, by omega⟩ ⟨by omega, by omega⟩ J_s318) ?_)
        rintro s329 v ⟨hG_s329, t_s329, z328, rfl, g_z328, J_s329⟩
        have q330 : s329 231 3 = x1000 := (t_s329 231 3 (show 2884 ∉ [4133, 4136, 4132, 4134, 4135, 6080, 6144, 4144, 4145, 4148, 4147, 6208, 4131, 6016, 4140] from by decide +kernel)).trans q319
        have q331 : s329 256 58 = x1001 := (t_s329 256 58 (show 4155 ∉ [4133, 4136, 4132, 4134, 4135, 6080, 6144, 4144, 4145, 4148, 4147, 6208, 4131, 6016, 4140] from by decide +kernel)).trans q320
        show xe (some (N, xs)) 231 844 [(0, .ref 2000), (1, .ref 0), (2, .ref 256), (3, vi x3)] [vi z328] s329 295 10442 _
        refine x_A k231_844 (fun _ => rfl) ?_
        refine x_goto k231_845 (t := 1300) rfl ?_
        refine x_iinc k231_1300 (ls' := [(3, vi (x3 + 7)), (0, .ref 2000), (1, .ref 0), (2, .ref 256)]) rfl (by decide) rfl ?_
        refine x_goto k231_1303 (t := 18) rfl ?_
        refine x_ls (l := [(0, .ref 2000), (1, .ref 0), (2, .ref 256), (3, vi (x3 + 7))]) (show ([0, 1, 2, 3] : List Nat).Nodup from by decide +kernel) ⟨rfl, rfl, rfl, rfl, trivial⟩ ?_
        exact ih s329 (x3 + 7) x1000 x1001 hG_s329 trivial ⟨by omega, by omega⟩ (by first | exact x_rb b_x1000 rfl rfl | exact ⟨by omega, by omega⟩) (by first | exact x_rb b_x1001 rfl rfl | exact ⟨by omega, by omega⟩) (by omega) (q330).symm (q331).symm J_s329  (by omega)
      · rw [c5]
        refine x_B k231_33 rfl (fun _ => rfl) (fun _ => rfl) (fun _ _ => rfl) ?_
        show xe (some (N, xs)) 231 848 [(0, .ref 2000), (1, .ref 0), (2, .ref 256), (3, vi x3)] [] s 295 10442 _
        refine x_A k231_848 (fun _ => rfl) ?_
        refine x_A k231_849 (fun _ => rfl) ?_
        refine x_A k231_850 (fun _ => rfl) ?_
        refine x_A k231_851 (fun _ => rfl) ?_
        refine x_iadd k231_852 ?_
        refine x_top (fun z332 e_z332 => ?_)
        refine x_scr k231_853 hN ⟨by omega, by omega⟩ (fun z333 g_z333 e_z333 => ?_)
        unfold in32 at g_z333
        refine x_A k231_854 (fun _ => rfl) ?_
        refine x_A k231_855 (fun _ => rfl) ?_
        refine x_A k231_856 (fun _ => rfl) ?_
        refine x_iadd k231_857 ?_
        refine x_top (fun z334 e_z334 => ?_)
        refine x_scr k231_858 hN ⟨by omega, by omega⟩ (fun z335 g_z335 e_z335 => ?_)
        unfold in32 at g_z335
        refine x_A k231_859 (fun _ => rfl) ?_
        refine x_A k231_860 (fun _ => rfl) ?_
        refine x_A k231_861 (fun _ => rfl) ?_
        refine x_iadd k231_862 ?_
        refine x_top (fun z336 e_z336 => ?_)
        refine x_scr k231_863 hN ⟨by omega, by omega⟩ (fun z337 g_z337 e_z337 => ?_)
        unfold in32 at g_z337
        refine x_callV k231_864 (y := 111) (n := 3) (w0 := 0) (w1 := 3) (as := [vi z333, vi z335, vi z337]) (rest := []) (by decide +kernel) (q := 0) (nq := 12) (kq := 3) ⟨by decide, rfl⟩ rfl rfl rfl rfl (xe_mono (C_X10_met_0 s hG i_J z333 (by first | exact x_rbe e_z333 g_z333 rfl rfl | exact x_rb g_z333 rfl rfl | exact ⟨by omega, by omega⟩) z335 (by first | exact x_rbe e_z335 g_z335 rfl rfl | exact x_rb g_z335 rfl rfl | exact ⟨by omega, by omega⟩) z337 (by first | exact x_rbe e_z337 g_z337 rfl rfl | exact x_rb g_z337 rfl rfl | exact ⟨by omega, by omega⟩)) ?_)
        rintro s339 v ⟨hG_s339, t_s339, z338, rfl, g_z338⟩
        have q340 : s339 231 3 = x1000 := (t_s339 231 3 (show 2884 ∉ [3329, 3334, 3335, 3336, 3392, 3456, 3520, 3584, 3276, 3648, 3712, 3776, 3840, 3904, 3968, 3277, 4032, 2752] from by decide +kernel)).trans e_x1000.symm
        have q341 : s339 256 58 = x1001 := (t_s339 256 58 (show 4155 ∉ [3329, 3334, 3335, 3336, 3392, 3456, 3520, 3584, 3276, 3648, 3712, 3776, 3840, 3904, 3968, 3277, 4032, 2752] from by decide +kernel)).trans e_x1001.symm
        have J_s339 : J s339 := J.fl i_J t_s339 (by decide +kernel)
        show xe (some (N, xs)) 231 867 [(0, .ref 2000), (1, .ref 0), (2, .ref 256), (3, vi x3)] [vi z338] s339 295 10442 _
        refine x_A k231_867 (fun _ => rfl) ?_
        refine x_A k231_868 (fun _ => rfl) ?_
        refine x_A k231_869 (fun _ => rfl) ?_
        refine x_A k231_870 (fun _ => rfl) ?_
        refine x_A k231_871 (fun _ => rfl) ?_
        refine x_iadd k231_872 ?_
        refine x_top (fun z342 e_z342 => ?_)
        refine x_scr k231_873 hN ⟨by omega, by omega⟩ (fun z343 g_z343 e_z343 => ?_)
        unfold in32 at g_z343
        have q_z343 : z343 = z333 := by rw [e_z343, e_z333, show z342 = z332 by omega]
        refine x_A k231_874 (fun _ => rfl) ?_
        refine x_A k231_875 (fun _ => rfl) ?_
        refine x_A k231_876 (fun _ => rfl) ?_
        refine x_iadd k231_877 ?_
        refine x_top (fun z344 e_z344 => ?_)
        refine x_scr k231_878 hN ⟨by omega, by omega⟩ (fun z345 g_z345 e_z345 => ?_)
        unfold in32 at g_z345
        have q_z345 : z345 = z335 := by rw [e_z345, e_z335, show z344 = z334 by omega]
        refine x_A k231_879 (fun _ => rfl) ?_
        refine x_A k231_880 (fun _ => rfl) ?_
        refine x_A k231_881 (fun _ => rfl) ?_
        refine x_iadd k231_882 ?_
        refine x_top (fun z346 e_z346 => ?_)
        refine x_scr k231_883 hN ⟨by omega, by omega⟩ (fun z347 g_z347 e_z347 => ?_)
        unfold in32 at g_z347
        have q_z347 : z347 = z337 := by rw [e_z347, e_z337, show z346 = z336 by omega]
        refine x_callV k231_884 (y := 204) (n := 3) (w0 := 0) (w1 := 3) (as := [vi z343, vi z345, vi z347]) (rest := []) (by decide +kernel) (q := 256) (nq := 62) (kq := 15) ⟨by decide, rfl⟩ rfl rfl rfl rfl (xe_mono (C_X11_met_256 s339 hG_s339 J_s339 z343 (by first | exact x_rbe e_z343 g_z343 rfl rfl | exact x_rb g_z343 rfl rfl | exact ⟨by omega, by omega⟩) z345 (by first | exact x_rbe e_z345 g_z345 rfl rfl | exact x_rb g_z345 rfl rfl | exact ⟨by omega, by omega⟩) z347 (by first | exact x_rbe e_z347 g_z347 rfl rfl | exact x_rb g_z347 rfl rfl | exact ⟨by omega, by omega⟩)) ?_)
        rintro s349 v ⟨hG_s349, t_s349, z348, rfl, g_z348⟩
        have q350 : s349 231 3 = x1000 := (t_s349 231 3 (show 2884 ∉ [5312, 5376, 4123, 5440, 5504, 5568, 5632, 5696, 5760, 6272] from by decide +kernel)).trans q340
        have q351 : s349 256 58 = x1001 := (t_s349 256 58 (show 4155 ∉ [5312, 5376, 4123, 5440, 5504, 5568, 5632, 5696, 5760, 6272] from by decide +kernel)).trans q341
        have J_s349 : J s349 := J.fl J_s339 t_s349 (by decide +kernel)
        show xe (some (N, xs)) 231 887 [(0, .ref 2000), (1, .ref 0), (2, .ref 256), (3, vi x3)] [vi z348] s349 295 10442 _
        refine x_A k231_887 (fun _ => rfl) ?_
        refine x_goto k231_888 (t := 1300) rfl ?_
        refine x_iinc k231_1300 (ls' := [(3, vi (x3 + 7)), (0, .ref 2000), (1, .ref 0), (2, .ref 256)]) rfl (by decide) rfl ?_
        refine x_goto k231_1303 (t := 18) rfl ?_
        refine x_ls (l := [(0, .ref 2000), (1, .ref 0), (2, .ref 256), (3, vi (x3 + 7))]) (show ([0, 1, 2, 3] : List Nat).Nodup from by decide +kernel) ⟨rfl, rfl, rfl, rfl, trivial⟩ ?_
        exact ih s349 (x3 + 7) x1000 x1001 hG_s349 trivial ⟨by omega, by omega⟩ (by first | exact x_rb b_x1000 rfl rfl | exact ⟨by omega, by omega⟩) (by first | exact x_rb b_x1001 rfl rfl | exact ⟨by omega, by omega⟩) (by omega) (q350).symm (q351).symm J_s349  (by omega)
      · rw [c5]
        refine x_B k231_33 rfl (fun _ => rfl) (fun _ => rfl) (fun _ _ => rfl) ?_
        show xe (some (N, xs)) 231 891 [(0, .ref 2000), (1, .ref 0), (2, .ref 256), (3, vi x3)] [] s 295 10442 _
        refine x_A k231_891 (fun _ => rfl) ?_
        refine x_A k231_892 (fun _ => rfl) ?_
        refine x_A k231_893 (fun _ => rfl) ?_
        refine x_A k231_894 (fun _ => rfl) ?_
        refine x_iadd k231_895 ?_
        refine x_top (fun z352 e_z352 => ?_)
        refine x_scr k231_896 hN ⟨by omega, by omega⟩ (fun z353 g_z353 e_z353 => ?_)
        unfold in32 at g_z353
        refine x_A k231_897 (fun _ => rfl) ?_
        refine x_A k231_898 (fun _ => rfl) ?_
        refine x_A k231_899 (fun _ => rfl) ?_
        refine x_iadd k231_900 ?_
        refine x_top (fun z354 e_z354 => ?_)
        refine x_scr k231_901 hN ⟨by omega, by omega⟩ (fun z355 g_z355 e_z355 => ?_)
        unfold in32 at g_z355
        refine x_A k231_902 (fun _ => rfl) ?_
        refine x_A k231_903 (fun _ => rfl) ?_
        refine x_A k231_904 (fun _ => rfl) ?_
        refine x_iadd k231_905 ?_
        refine x_top (fun z356 e_z356 => ?_)
        refine x_scr k231_906 hN ⟨by omega, by omega⟩ (fun z357 g_z357 e_z357 => ?_)
        unfold in32 at g_z357
        refine x_A k231_907 (fun _ => rfl) ?_
        refine x_A k231_908 (fun _ => rfl) ?_
        refine x_A k231_909 (fun _ => rfl) ?_
        refine x_iadd k231_910 ?_
        refine x_top (fun z358 e_z358 => ?_)
        refine x_scr k231_911 hN ⟨by omega, by omega⟩ (fun z359 g_z359 e_z359 => ?_)
        unfold in32 at g_z359
        refine x_A k231_912 (fun _ => rfl) ?_
        refine x_A k231_913 (fun _ => rfl) ?_
        refine x_A k231_914 (fun _ => rfl) ?_
        refine x_iadd k231_915 ?_
        refine x_top (fun z360 e_z360 => ?_)
        refine x_scr k231_916 hN ⟨by omega, by omega⟩ (fun z361 g_z361 e_z361 => ?_)
        unfold in32 at g_z361
        refine x_callV k231_917 (y := 112) (n := 5) (w0 := 0) (w1 := 5) (as := [vi z353, vi z355, vi z357, vi z359, vi z361]) (rest := []) (by decide +kernel) (q := 0) (nq := 12) (kq := 3) ⟨by decide, rfl⟩ rfl rfl rfl rfl (xe_mono (C_X10_hands_0 s hG i_J z353 (by first | exact x_rbe e_z353 g_z353 rfl rfl | exact x_rb g_z353 rfl rfl | exact ⟨by omega, by omega⟩) z355 (by first | exact x_rbe e_z355 g_z355 rfl rfl | exact x_rb g_z355 rfl rfl | exact ⟨by omega, by omega⟩) z357 (by first | exact x_rbe e_z357 g_z357 rfl rfl | exact x_rb g_z357 rfl rfl | exact ⟨by omega, by omega⟩) z359 (by first | exact x_rbe e_z359 g_z359 rfl rfl | exact x_rb g_z359 rfl rfl | exact ⟨by omega, by omega⟩) z361 (by first | exact x_rbe e_z361 g_z361 rfl rfl | exact x_rb g_z361 rfl rfl | exact ⟨by omega, by omega⟩)) ?_)
        rintro s363 v ⟨hG_s363, t_s363, z362, rfl, g_z362⟩
        have q364 : s363 231 3 = x1000 := (t_s363 231 3 (show 2884 ∉ [3329, 3334, 3335, 3336, 3392, 3456, 3520, 3584, 3276, 3648, 3712, 3776, 3840, 3904, 3968, 3277, 4032] from by decide +kernel)).trans e_x1000.symm
        have q365 : s363 256 58 = x1001 := (t_s363 256 58 (show 4155 ∉ [3329, 3334, 3335, 3336, 3392, 3456, 3520, 3584, 3276, 3648, 3712, 3776, 3840, 3904, 3968, 3277, 4032] from by decide +kernel)).trans e_x1001.symm
        have J_s363 : J s363 := J.fl i_J t_s363 (by decide +kernel)
        show xe (some (N, xs)) 231 920 [(0, .ref 2000), (1, .ref 0), (2, .ref 256), (3, vi x3)] [vi z362] s363 295 10442 _
        refine x_A k231_920 (fun _ => rfl) ?_
        refine x_A k231_921 (fun _ => rfl) ?_
        refine x_A k231_922 (fun _ => rfl) ?_
        refine x_A k231_923 (fun _ => rfl) ?_
        refine x_A k231_924 (fun _ => rfl) ?_
        refine x_iadd k231_925 ?_
        refine x_top (fun z366 e_z366 => ?_)
        refine x_scr k231_926 hN ⟨by omega, by omega⟩ (fun z367 g_z367 e_z367 => ?_)
        unfold in32 at g_z367
        have q_z367 : z367 = z353 := by rw [e_z367, e_z353, show z366 = z352 by omega]
        refine x_A k231_927 (fun _ => rfl) ?_
        refine x_A k231_928 (fun _ => rfl) ?_
        refine x_A k231_929 (fun _ => rfl) ?_
        refine x_iadd k231_930 ?_
        refine x_top (fun z368 e_z368 => ?_)
        refine x_scr k231_931 hN ⟨by omega, by omega⟩ (fun z369 g_z369 e_z369 => ?_)
        unfold in32 at g_z369
        have q_z369 : z369 = z355 := by rw [e_z369, e_z355, show z368 = z354 by omega]
        refine x_A k231_932 (fun _ => rfl) ?_
        refine x_A k231_933 (fun _ => rfl) ?_
        refine x_A k231_934 (fun _ => rfl) ?_
        refine x_iadd k231_935 ?_
        refine x_top (fun z370 e_z370 => ?_)
        refine x_scr k231_936 hN ⟨by omega, by omega⟩ (fun z371 g_z371 e_z371 => ?_)
        unfold in32 at g_z371
        have q_z371 : z371 = z357 := by rw [e_z371, e_z357, show z370 = z356 by omega]
        refine x_A k231_937 (fun _ => rfl) ?_
        refine x_A k231_938 (fun _ => rfl) ?_
        refine x_A k231_939 (fun _ => rfl) ?_
        refine x_iadd k231_940 ?_
        refine x_top (fun z372 e_z372 => ?_)
        refine x_scr k231_941 hN ⟨by omega, by omega⟩ (fun z373 g_z373 e_z373 => ?_)
        unfold in32 at g_z373
        have q_z373 : z373 = z359 := by rw [e_z373, e_z359, show z372 = z358 by omega]
        refine x_A k231_942 (fun _ => rfl) ?_
        refine x_A k231_943 (fun _ => rfl) ?_
        refine x_A k231_944 (fun _ => rfl) ?_
        refine x_iadd k231_945 ?_
        refine x_top (fun z374 e_z374 => ?_)
        refine x_scr k231_946 hN ⟨by omega, by omega⟩ (fun z375 g_z375 e_z375 => ?_)
        unfold in32 at g_z375
        have q_z375 : z375 = z361 := by rw [e_z375, e_z361, show z374 = z360 by omega]
        refine x_callV k231_947 (y := 206) (n := 5) (w0 := 0) (w1 := 5) (as := [vi z367, vi z369, vi z371, vi z373, vi z375]) (rest := []) (by decide +kernel) (q := 256) (nq := 62) (kq := 15) ⟨by decide, rfl⟩ rfl rfl rfl rfl (xe_mono (C_X11_hands_256 s363 hG_s363 J_s363 z367 (by first | exact x_rbe e_z367 g_z367 rfl rfl | exact x_rb g_z367 rfl rfl | exact ⟨by omega, by omega⟩) z369 (by first | exact x_rbe e_z369 g_z369 rfl rfl | exact x_rb g_z369 rfl rfl | exact ⟨by omega, by omega⟩) z371 (by first | exact x_rbe e_z371 g_z371 rfl rfl | exact x_rb g_z371 rfl rfl | exact ⟨by omega, by omega⟩) z373 (by first | exact x_rbe e_z373 g_z373 rfl rfl | exact x_rb g_z373 rfl rfl | exact ⟨by omega, by omega⟩) z375 (by first | exact x_rbe e_z375 g_z375 rfl rfl | exact x_rb g_z375 rfl rfl | exact ⟨by omega, by omega⟩)) ?_)
        rintro s377 v ⟨hG_s377, t_s377, z376, rfl, g_z376⟩
        have q378 : s377 231 3 = x1000 := (t_s377 231 3 (show 2884 ∉ [5312, 5376, 4123, 5440, 5504, 5568, 5632, 5696, 5760] from by decide +kernel)).trans q364
        have q379 : s377 256 58 = x1001 := (t_s377 256 58 (show 4155 ∉ [5312, 5376, 4123, 5440, 5504, 5568, 5632, 5696, 5760] from by decide +kernel)).trans q365
        have J_s377 : J s377 := J.fl J_s363 t_s377 (by decide +kernel)
        show xe (some (N, xs)) 231 950 [(0, .ref 2000), (1, .ref 0), (2, .ref 256), (3, vi x3)] [vi z376] s377 295 10442 _
        refine x_A k231_950 (fun _ => rfl) ?_
        refine x_goto k231_951 (t := 1300) rfl ?_
        refine x_iinc k231_1300 (ls' := [(3, vi (x3 + 7)), (0, .ref 2000), (1, .ref 0), (2, .ref 256)]) rfl (by decide) rfl ?_
        refine x_goto k231_1303 (t := 18) rfl ?_
        refine x_ls (l := [(0, .ref 2000), (1, .ref 0), (2, .ref 256), (3, vi (x3 + 7))]) (show ([0, 1, 2, 3] : List Nat).Nodup from by decide +kernel) ⟨rfl, rfl, rfl, rfl, trivial⟩ ?_
        exact ih s377 (x3 + 7) x1000 x1001 hG_s377 trivial ⟨by omega, by omega⟩ (by first | exact x_rb b_x1000 rfl rfl | exact ⟨by omega, by omega⟩) (by first | exact x_rb b_x1001 rfl rfl | exact ⟨by omega, by omega⟩) (by omega) (q378).symm (q379).symm J_s377  (by omega)
      · rw [c5]
        refine x_B k231_33 rfl (fun _ => rfl) (fun _ => rfl) (fun _ _ => rfl) ?_
        show xe (some (N, xs)) 231 954 [(0, .ref 2000), (1, .ref 0), (2, .ref 256), (3, vi x3)] [] s 295 10442 _
        refine x_A k231_954 (fun _ => rfl) ?_
        refine x_A k231_955 (fun _ => rfl) ?_
        refine x_A k231_956 (fun _ => rfl) ?_
        refine x_A k231_957 (fun _ => rfl) ?_
        refine x_iadd k231_958 ?_
        refine x_top (fun z380 e_z380 => ?_)
        refine x_scr k231_959 hN ⟨by omega, by omega⟩ (fun z381 g_z381 e_z381 => ?_)
        unfold in32 at g_z381
        refine x_A k231_960 (fun _ => rfl) ?_
        refine x_A k231_961 (fun _ => rfl) ?_
        refine x_A k231_962 (fun _ => rfl) ?_
        refine x_iadd k231_963 ?_
        refine x_top (fun z382 e_z382 => ?_)
        refine x_scr k231_964 hN ⟨by omega, by omega⟩ (fun z383 g_z383 e_z383 => ?_)
        unfold in32 at g_z383
        refine x_A k231_965 (fun _ => rfl) ?_
        refine x_A k231_966 (fun _ => rfl) ?_
        refine x_A k231_967 (fun _ => rfl) ?_
        refine x_iadd k231_968 ?_
        refine x_top (fun z384 e_z384 => ?_)
        refine x_scr k231_969 hN ⟨by omega, by omega⟩ (fun z385 g_z385 e_z385 => ?_)
        unfold in32 at g_z385
        refine x_A k231_970 (fun _ => rfl) ?_
        refine x_A k231_971 (fun _ => rfl) ?_
        refine x_A k231_972 (fun _ => rfl) ?_
        refine x_iadd k231_973 ?_
        refine x_top (fun z386 e_z386 => ?_)
        refine x_scr k231_974 hN ⟨by omega, by omega⟩ (fun z387 g_z387 e_z387 => ?_)
        unfold in32 at g_z387
        refine x_A k231_975 (fun _ => rfl) ?_
        refine x_A k231_976 (fun _ => rfl) ?_
        refine x_A k231_977 (fun _ => rfl) ?_
        refine x_iadd k231_978 ?_
        refine x_top (fun z388 e_z388 => ?_)
        refine x_scr k231_979 hN ⟨by omega, by omega⟩ (fun z389 g_z389 e_z389 => ?_)
        unfold in32 at g_z389
        refine x_A k231_980 (fun _ => rfl) ?_
        refine x_A k231_981 (fun _ => rfl) ?_
        refine x_bipush k231_982 (by decide +kernel) ?_
        refine x_iadd k231_984 ?_
        refine x_top (fun z390 e_z390 => ?_)
        refine x_scr k231_985 hN ⟨by omega, by omega⟩ (fun z391 g_z391 e_z391 => ?_)
        unfold in32 at g_z391
        refine x_callV k231_986 (y := 113) (n := 6) (w0 := 0) (w1 := 6) (as := [vi z381, vi z383, vi z385, vi z387, vi z389, vi z391]) (rest := []) (by decide +kernel) (q := 0) (nq := 12) (kq := 3) ⟨by decide, rfl⟩ rfl rfl rfl rfl (xe_mono (C_X10_together_0 s hG i_J z381 (by first | exact x_rbe e_z381 g_z381 rfl rfl | exact x_rb g_z381 rfl rfl | exact ⟨by omega, by omega⟩) z383 (by first | exact x_rbe e_z383 g_z383 rfl rfl | exact x_rb g_z383 rfl rfl | exact ⟨by omega, by omega⟩) z385 (by first | exact x_rbe e_z385 g_z385 rfl rfl | exact x_rb g_z385 rfl rfl | exact ⟨by omega, by omega⟩) z387 (by first | exact x_rbe e_z387 g_z387 rfl rfl | exact x_rb g_z387 rfl rfl | exact ⟨by omega, by omega⟩) z389 (by first | exact x_rbe e_z389 g_z389 rfl rfl | exact x_rb g_z389 rfl rfl | exact ⟨by omega, by omega⟩) z391 (by first | exact x_rbe e_z391 g_z391 rfl rfl | exact x_rb g_z391 rfl rfl | exact ⟨by omega, by omega⟩)) ?_)
        rintro s393 v ⟨hG_s393, t_s393, z392, rfl, g_z392⟩
        have q394 : s393 231 3 = x1000 := (t_s393 231 3 (show 2884 ∉ [3329, 3334, 3335, 3336, 3392, 3456, 3520, 3584, 3276, 3648, 3712, 3776, 3840, 3904, 3968, 3277, 4032] from by decide +kernel)).trans e_x1000.symm
        have q395 : s393 256 58 = x1001 := (t_s393 256 58 (show 4155 ∉ [3329, 3334, 3335, 3336, 3392, 3456, 3520, 3584, 3276, 3648, 3712, 3776, 3840, 3904, 3968, 3277, 4032] from by decide +kernel)).trans e_x1001.symm
        have J_s393 : J s393 := J.fl i_J t_s393 (by decide +kernel)
        show xe (some (N, xs)) 231 989 [(0, .ref 2000), (1, .ref 0), (2, .ref 256), (3, vi x3)] [vi z392] s393 295 10442 _
        refine x_A k231_989 (fun _ => rfl) ?_
        refine x_A k231_990 (fun _ => rfl) ?_
        refine x_A k231_991 (fun _ => rfl) ?_
        refine x_A k231_992 (fun _ => rfl) ?_
        refine x_A k231_993 (fun _ => rfl) ?_
        refine x_iadd k231_994 ?_
        refine x_top (fun z396 e_z396 => ?_)
        refine x_scr k231_995 hN ⟨by omega, by omega⟩ (fun z397 g_z397 e_z397 => ?_)
        unfold in32 at g_z397
        have q_z397 : z397 = z381 := by rw [e_z397, e_z381, show z396 = z380 by omega]
        refine x_A k231_996 (fun _ => rfl) ?_
        refine x_A k231_997 (fun _ => rfl) ?_
        refine x_A k231_998 (fun _ => rfl) ?_
        refine x_iadd k231_999 ?_
        refine x_top (fun z398 e_z398 => ?_)
        refine x_scr k231_1000 hN ⟨by omega, by omega⟩ (fun z399 g_z399 e_z399 => ?_)
        unfold in32 at g_z399
        have q_z399 : z399 = z383 := by rw [e_z399, e_z383, show z398 = z382 by omega]
        refine x_A k231_1001 (fun _ => rfl) ?_
        refine x_A k231_1002 (fun _ => rfl) ?_
        refine x_A k231_1003 (fun _ => rfl) ?_
        refine x_iadd k231_1004 ?_
        refine x_top (fun z400 e_z400 => ?_)
        refine x_scr k231_1005 hN ⟨by omega, by omega⟩ (fun z401 g_z401 e_z401 => ?_)
        unfold in32 at g_z401
        have q_z401 : z401 = z385 := by rw [e_z401, e_z385, show z400 = z384 by omega]
        refine x_A k231_1006 (fun _ => rfl) ?_
        refine x_A k231_1007 (fun _ => rfl) ?_
        refine x_A k231_1008 (fun _ => rfl) ?_
        refine x_iadd k231_1009 ?_
        refine x_top (fun z402 e_z402 => ?_)
        refine x_scr k231_1010 hN ⟨by omega, by omega⟩ (fun z403 g_z403 e_z403 => ?_)
        unfold in32 at g_z403
        have q_z403 : z403 = z387 := by rw [e_z403, e_z387, show z402 = z386 by omega]
        refine x_A k231_1011 (fun _ => rfl) ?_
        refine x_A k231_1012 (fun _ => rfl) ?_
        refine x_A k231_1013 (fun _ => rfl) ?_
        refine x_iadd k231_1014 ?_
        refine x_top (fun z404 e_z404 => ?_)
        refine x_scr k231_1015 hN ⟨by omega, by omega⟩ (fun z405 g_z405 e_z405 => ?_)
        unfold in32 at g_z405
        have q_z405 : z405 = z389 := by rw [e_z405, e_z389, show z404 = z388 by omega]
        refine x_A k231_1016 (fun _ => rfl) ?_
        refine x_A k231_1017 (fun _ => rfl) ?_
        refine x_bipush k231_1018 (by decide +kernel) ?_
        refine x_iadd k231_1020 ?_
        refine x_top (fun z406 e_z406 => ?_)
        refine x_scr k231_1021 hN ⟨by omega, by omega⟩ (fun z407 g_z407 e_z407 => ?_)
        unfold in32 at g_z407
        have q_z407 : z407 = z391 := by rw [e_z407, e_z391, show z406 = z390 by omega]
        refine x_callV k231_1022 (y := 208) (n := 6) (w0 := 0) (w1 := 6) (as := [vi z397, vi z399, vi z401, vi z403, vi z405, vi z407]) (rest := []) (by decide +kernel) (q := 256) (nq := 62) (kq := 15) ⟨by decide, rfl⟩ rfl rfl rfl rfl (xe_mono (C_X11_together_256 s393 hG_s393 J_s393 z397 (by first | exact x_rbe e_z397 g_z397 rfl rfl | exact x_rb g_z397 rfl rfl | exact ⟨by omega, by omega⟩) z399 (by first | exact x_rbe e_z399 g_z399 rfl rfl | exact x_rb g_z399 rfl rfl | exact ⟨by omega, by omega⟩) z401 (by first | exact x_rbe e_z401 g_z401 rfl rfl | exact x_rb g_z401 rfl rfl | exact ⟨by omega, by omega⟩) z403 (by first | exact x_rbe e_z403 g_z403 rfl rfl | exact x_rb g_z403 rfl rfl | exact ⟨by omega, by omega⟩) z405 (by first | exact x_rbe e_z405 g_z405 rfl rfl | exact x_rb g_z405 rfl rfl | exact ⟨by omega, by omega⟩) z407 (by first | exact x_rbe e_z407 g_z407 rfl rfl | exact x_rb g_z407 rfl rfl | exact ⟨by omega, by omega⟩)) ?_)
        rintro s409 v ⟨hG_s409, t_s409, z408, rfl, g_z408⟩
        have q410 : s409 231 3 = x1000 := (t_s409 231 3 (show 2884 ∉ [5312, 5376, 4123, 5440, 5504, 5568, 5632, 5696, 5760, 4150, 4151, 4152, 4153] from by decide +kernel)).trans q394
        have q411 : s409 256 58 = x1001 := (t_s409 256 58 (show 4155 ∉ [5312, 5376, 4123, 5440, 5504, 5568, 5632, 5696, 5760, 4150, 4151, 4152, 4153] from by decide +kernel)).trans q395
        have J_s409 : J s409 := J.fl J_s393 t_s409 (by decide +kernel)
        show xe (some (N, xs)) 231 1025 [(0, .ref 2000), (1, .ref 0), (2, .ref 256), (3, vi x3)] [vi z408] s409 295 10442 _
        refine x_A k231_1025 (fun _ => rfl) ?_
        refine x_goto k231_1026 (t := 1300) rfl ?_
        refine x_iinc k231_1300 (ls' := [(3, vi (x3 + 7)), (0, .ref 2000), (1, .ref 0), (2, .ref 256)]) rfl (by decide) rfl ?_
        refine x_goto k231_1303 (t := 18) rfl ?_
        refine x_ls (l := [(0, .ref 2000), (1, .ref 0), (2, .ref 256), (3, vi (x3 + 7))]) (show ([0, 1, 2, 3] : List Nat).Nodup from by decide +kernel) ⟨rfl, rfl, rfl, rfl, trivial⟩ ?_
        exact ih s409 (x3 + 7) x1000 x1001 hG_s409 trivial ⟨by omega, by omega⟩ (by first | exact x_rb b_x1000 rfl rfl | exact ⟨by omega, by omega⟩) (by first | exact x_rb b_x1001 rfl rfl | exact ⟨by omega, by omega⟩) (by omega) (q410).symm (q411).symm J_s409  (by omega)
      · rw [c5]
        refine x_B k231_33 rfl (fun _ => rfl) (fun _ => rfl) (fun _ _ => rfl) ?_
        show xe (some (N, xs)) 231 1029 [(0, .ref 2000), (1, .ref 0), (2, .ref 256), (3, vi x3)] [] s 295 10442 _
        refine x_A k231_1029 (fun _ => rfl) ?_
        refine x_A k231_1030 (fun _ => rfl) ?_
        refine x_A k231_1031 (fun _ => rfl) ?_
        refine x_A k231_1032 (fun _ => rfl) ?_
        refine x_iadd k231_1033 ?_
        refine x_top (fun z412 e_z412 => ?_)
        refine x_scr k231_1034 hN ⟨by omega, by omega⟩ (fun z413 g_z413 e_z413 => ?_)
        unfold in32 at g_z413
        refine x_A k231_1035 (fun _ => rfl) ?_
        refine x_A k231_1036 (fun _ => rfl) ?_
        refine x_A k231_1037 (fun _ => rfl) ?_
        refine x_iadd k231_1038 ?_
        refine x_top (fun z414 e_z414 => ?_)
        refine x_scr k231_1039 hN ⟨by omega, by omega⟩ (fun z415 g_z415 e_z415 => ?_)
        unfold in32 at g_z415
        refine x_A k231_1040 (fun _ => rfl) ?_
        refine x_A k231_1041 (fun _ => rfl) ?_
        refine x_A k231_1042 (fun _ => rfl) ?_
        refine x_iadd k231_1043 ?_
        refine x_top (fun z416 e_z416 => ?_)
        refine x_scr k231_1044 hN ⟨by omega, by omega⟩ (fun z417 g_z417 e_z417 => ?_)
        unfold in32 at g_z417
        refine x_callV k231_1045 (y := 114) (n := 3) (w0 := 0) (w1 := 3) (as := [vi z413, vi z415, vi z417]) (rest := []) (by decide +kernel) (q := 0) (nq := 12) (kq := 3) ⟨by decide, rfl⟩ rfl rfl rfl rfl (xe_mono (C_X10_along_0 s hG i_J z413 (by first | exact x_rbe e_z413 g_z413 rfl rfl | exact x_rb g_z413 rfl rfl | exact ⟨by omega, by omega⟩) z415 (by first | exact x_rbe e_z415 g_z415 rfl rfl | exact x_rb g_z415 rfl rfl | exact ⟨by omega, by omega⟩) z417 (by first | exact x_rbe e_z417 g_z417 rfl rfl | exact x_rb g_z417 rfl rfl | exact ⟨by omega, by omega⟩)) ?_)
        rintro s419 v ⟨hG_s419, t_s419, z418, rfl, g_z418⟩
        have q420 : s419 231 3 = x1000 := (t_s419 231 3 (show 2884 ∉ [3329, 3334, 3335, 3336, 3392, 3456, 3520, 3584, 3276, 3648, 3712, 3776, 3840, 3904, 3968, 3277, 4032] from by decide +kernel)).trans e_x1000.symm
        have q421 : s419 256 58 = x1001 := (t_s419 256 58 (show 4155 ∉ [3329, 3334, 3335, 3336, 3392, 3456, 3520, 3584, 3276, 3648, 3712, 3776, 3840, 3904, 3968, 3277, 4032] from by decide +kernel)).trans e_x1001.symm
        have J_s419 : J s419 := J.fl i_J t_s419 (by decide +kernel)
        show xe (some (N, xs)) 231 1048 [(0, .ref 2000), (1, .ref 0), (2, .ref 256), (3, vi x3)] [vi z418] s419 295 10442 _
        refine x_A k231_1048 (fun _ => rfl) ?_
        refine x_A k231_1049 (fun _ => rfl) ?_
        refine x_A k231_1050 (fun _ => rfl) ?_
        refine x_A k231_1051 (fun _ => rfl) ?_
        refine x_A k231_1052 (fun _ => rfl) ?_
        refine x_iadd k231_1053 ?_
        refine x_top (fun z422 e_z422 => ?_)
        refine x_scr k231_1054 hN ⟨by omega, by omega⟩ (fun z423 g_z423 e_z423 => ?_)
        unfold in32 at g_z423
        have q_z423 : z423 = z413 := by rw [e_z423, e_z413, show z422 = z412 by omega]
        refine x_A k231_1055 (fun _ => rfl) ?_
        refine x_A k231_1056 (fun _ => rfl) ?_
        refine x_A k231_1057 (fun _ => rfl) ?_
        refine x_iadd k231_1058 ?_
        refine x_top (fun z424 e_z424 => ?_)
        refine x_scr k231_1059 hN ⟨by omega, by omega⟩ (fun z425 g_z425 e_z425 => ?_)
        unfold in32 at g_z425
        have q_z425 : z425 = z415 := by rw [e_z425, e_z415, show z424 = z414 by omega]
        refine x_A k231_1060 (fun _ => rfl) ?_
        refine x_A k231_1061 (fun _ => rfl) ?_
        refine x_A k231_1062 (fun _ => rfl) ?_
        refine x_iadd k231_1063 ?_
        refine x_top (fun z426 e_z426 => ?_)
        refine x_scr k231_1064 hN ⟨by omega, by omega⟩ (fun z427 g_z427 e_z427 => ?_)
        unfold in32 at g_z427
        have q_z427 : z427 = z417 := by rw [e_z427, e_z417, show z426 = z416 by omega]
        refine x_callV k231_1065 (y := 211) (n := 3) (w0 := 0) (w1 := 3) (as := [vi z423, vi z425, vi z427]) (rest := []) (by decide +kernel) (q := 256) (nq := 62) (kq := 15) ⟨by decide, rfl⟩ rfl rfl rfl rfl (xe_mono (C_X11_along_256 s419 hG_s419 J_s419 z423 (by first | exact x_rbe e_z423 g_z423 rfl rfl | exact x_rb g_z423 rfl rfl | exact ⟨by omega, by omega⟩) z425 (by first | exact x_rbe e_z425 g_z425 rfl rfl | exact x_rb g_z425 rfl rfl | exact ⟨by omega, by omega⟩) z427 (by first | exact x_rbe e_z427 g_z427 rfl rfl | exact x_rb g_z427 rfl rfl | exact ⟨by omega, by omega⟩)) ?_)
        rintro s429 v ⟨hG_s429, t_s429, z428, rfl, g_z428⟩
        have q430 : s429 231 3 = x1000 := (t_s429 231 3 (show 2884 ∉ [5312, 5376, 4123, 5440, 5504, 5568, 5632, 5696, 5760, 4150, 4151, 4152, 4153] from by decide +kernel)).trans q420
        have q431 : s429 256 58 = x1001 := (t_s429 256 58 (show 4155 ∉ [5312, 5376, 4123, 5440, 5504, 5568, 5632, 5696, 5760, 4150, 4151, 4152, 4153] from by decide +kernel)).trans q421
        have J_s429 : J s429 := J.fl J_s419 t_s429 (by decide +kernel)
        show xe (some (N, xs)) 231 1068 [(0, .ref 2000), (1, .ref 0), (2, .ref 256), (3, vi x3)] [vi z428] s429 295 10442 _
        refine x_A k231_1068 (fun _ => rfl) ?_
        refine x_goto k231_1069 (t := 1300) rfl ?_
        refine x_iinc k231_1300 (ls' := [(3, vi (x3 + 7)), (0, .ref 2000), (1, .ref 0), (2, .ref 256)]) rfl (by decide) rfl ?_
        refine x_goto k231_1303 (t := 18) rfl ?_
        refine x_ls (l := [(0, .ref 2000), (1, .ref 0), (2, .ref 256), (3, vi (x3 + 7))]) (show ([0, 1, 2, 3] : List Nat).Nodup from by decide +kernel) ⟨rfl, rfl, rfl, rfl, trivial⟩ ?_
        exact ih s429 (x3 + 7) x1000 x1001 hG_s429 trivial ⟨by omega, by omega⟩ (by first | exact x_rb b_x1000 rfl rfl | exact ⟨by omega, by omega⟩) (by first | exact x_rb b_x1001 rfl rfl | exact ⟨by omega, by omega⟩) (by omega) (q430).symm (q431).symm J_s429  (by omega)
      · rw [c5]
        refine x_B k231_33 rfl (fun _ => rfl) (fun _ => rfl) (fun _ _ => rfl) ?_
        show xe (some (N, xs)) 231 1072 [(0, .ref 2000), (1, .ref 0), (2, .ref 256), (3, vi x3)] [] s 295 10442 _
        refine x_A k231_1072 (fun _ => rfl) ?_
        refine x_A k231_1073 (fun _ => rfl) ?_
        refine x_A k231_1074 (fun _ => rfl) ?_
        refine x_A k231_1075 (fun _ => rfl) ?_
        refine x_iadd k231_1076 ?_
        refine x_top (fun z432 e_z432 => ?_)
        refine x_scr k231_1077 hN ⟨by omega, by omega⟩ (fun z433 g_z433 e_z433 => ?_)
        unfold in32 at g_z433
        refine x_A k231_1078 (fun _ => rfl) ?_
        refine x_A k231_1079 (fun _ => rfl) ?_
        refine x_A k231_1080 (fun _ => rfl) ?_
        refine x_iadd k231_1081 ?_
        refine x_top (fun z434 e_z434 => ?_)
        refine x_scr k231_1082 hN ⟨by omega, by omega⟩ (fun z435 g_z435 e_z435 => ?_)
        unfold in32 at g_z435
        refine x_A k231_1083 (fun _ => rfl) ?_
        refine x_A k231_1084 (fun _ => rfl) ?_
        refine x_A k231_1085 (fun _ => rfl) ?_
        refine x_iadd k231_1086 ?_
        refine x_top (fun z436 e_z436 => ?_)
        refine x_scr k231_1087 hN ⟨by omega, by omega⟩ (fun z437 g_z437 e_z437 => ?_)
        unfold in32 at g_z437
        refine x_callV k231_1088 (y := 115) (n := 3) (w0 := 0) (w1 := 3) (as := [vi z433, vi z435, vi z437]) (rest := []) (by decide +kernel) (q := 0) (nq := 12) (kq := 3) ⟨by decide, rfl⟩ rfl rfl rfl rfl (xe_mono (C_X10_likely_0 s hG i_J z433 (by first | exact x_rbe e_z433 g_z433 rfl rfl | exact x_rb g_z433 rfl rfl | exact ⟨by omega, by omega⟩) z435 (by first | exact x_rbe e_z435 g_z435 rfl rfl | exact x_rb g_z435 rfl rfl | exact ⟨by omega, by omega⟩) z437 (by first | exact x_rbe e_z437 g_z437 rfl rfl | exact x_rb g_z437 rfl rfl | exact ⟨by omega, by omega⟩)) ?_)
        rintro s439 v ⟨hG_s439, t_s439, z438, rfl, g_z438⟩
        have q440 : s439 231 3 = x1000 := (t_s439 231 3 (show 2884 ∉ [3329, 3334, 3335, 3336, 3392, 3456, 3520, 3584, 3276, 3648, 3712, 3776, 3840, 3904, 3968, 3277, 4032] from by decide +kernel)).trans e_x1000.symm
        have q441 : s439 256 58 = x1001 := (t_s439 256 58 (show 4155 ∉ [3329, 3334, 3335, 3336, 3392, 3456, 3520, 3584, 3276, 3648, 3712, 3776, 3840, 3904, 3968, 3277, 4032] from by decide +kernel)).trans e_x1001.symm
        have J_s439 : J s439 := J.fl i_J t_s439 (by decide +kernel)
        show xe (some (N, xs)) 231 1091 [(0, .ref 2000), (1, .ref 0), (2, .ref 256), (3, vi x3)] [vi z438] s439 295 10442 _
        refine x_A k231_1091 (fun _ => rfl) ?_
        refine x_A k231_1092 (fun _ => rfl) ?_
        refine x_A k231_1093 (fun _ => rfl) ?_
        refine x_A k231_1094 (fun _ => rfl) ?_
        refine x_A k231_1095 (fun _ => rfl) ?_
        refine x_iadd k231_1096 ?_
        refine x_top (fun z442 e_z442 => ?_)
        refine x_scr k231_1097 hN ⟨by omega, by omega⟩ (fun z443 g_z443 e_z443 => ?_)
        unfold in32 at g_z443
        have q_z443 : z443 = z433 := by rw [e_z443, e_z433, show z442 = z432 by omega]
        refine x_A k231_1098 (fun _ => rfl) ?_
        refine x_A k231_1099 (fun _ => rfl) ?_
        refine x_A k231_1100 (fun _ => rfl) ?_
        refine x_iadd k231_1101 ?_
        refine x_top (fun z444 e_z444 => ?_)
        refine x_scr k231_1102 hN ⟨by omega, by omega⟩ (fun z445 g_z445 e_z445 => ?_)
        unfold in32 at g_z445
        have q_z445 : z445 = z435 := by rw [e_z445, e_z435, show z444 = z434 by omega]
        refine x_A k231_1103 (fun _ => rfl) ?_
        refine x_A k231_1104 (fun _ => rfl) ?_
        refine x_A k231_1105 (fun _ => rfl) ?_
        refine x_iadd k231_1106 ?_
        refine x_top (fun z446 e_z446 => ?_)
        refine x_scr k231_1107 hN ⟨by omega, by omega⟩ (fun z447 g_z447 e_z447 => ?_)
        unfold in32 at g_z447
        have q_z447 : z447 = z437 := by rw [e_z447, e_z437, show z446 = z436 by omega]
        refine x_callV k231_1108 (y := 212) (n := 3) (w0 := 0) (w1 := 3) (as := [vi z443, vi z445, vi z447]) (rest := []) (by decide +kernel) (q := 256) (nq := 62) (kq := 15) ⟨by decide, rfl⟩ rfl rfl rfl rfl (xe_mono (C_X11_likely_256 s439 hG_s439 J_s439 z443 (by first | exact x_rbe e_z443 g_z443 rfl rfl | exact x_rb g_z443 rfl rfl | exact ⟨by omega, by omega⟩) z445 (by first | exact x_rbe e_z445 g_z445 rfl rfl | exact x_rb g_z445 rfl rfl | exact ⟨by omega, by omega⟩) z447 (by first | exact x_rbe e_z447 g_z447 rfl rfl | exact x_rb g_z447 rfl rfl | exact ⟨by omega, by omega⟩)) ?_)
        rintro s449 v ⟨hG_s449, t_s449, z448, rfl, g_z448⟩
        have q450 : s449 231 3 = x1000 := (t_s449 231 3 (show 2884 ∉ [5312, 5376, 4123, 5440, 5504, 5568, 5632, 5696, 5760, 4150, 4151, 4152, 4153, 6336] from by decide +kernel)).trans q440
        have q451 : s449 256 58 = x1001 := (t_s449 256 58 (show 4155 ∉ [5312, 5376, 4123, 5440, 5504, 5568, 5632, 5696, 5760, 4150, 4151, 4152, 4153, 6336] from by decide +kernel)).trans q441
        have J_s449 : J s449 := J.fl J_s439 t_s449 (by decide +kernel)
        show xe (some (N, xs)) 231 1111 [(0, .ref 2000), (1, .ref 0), (2, .ref 256), (3, vi x3)] [vi z448] s449 295 10442 _
        refine x_A k231_1111 (fun _ => rfl) ?_
        refine x_goto k231_1112 (t := 1300) rfl ?_
        refine x_iinc k231_1300 (ls' := [(3, vi (x3 + 7)), (0, .ref 2000), (1, .ref 0), (2, .ref 256)]) rfl (by decide) rfl ?_
        refine x_goto k231_1303 (t := 18) rfl ?_
        refine x_ls (l := [(0, .ref 2000), (1, .ref 0), (2, .ref 256), (3, vi (x3 + 7))]) (show ([0, 1, 2, 3] : List Nat).Nodup from by decide +kernel) ⟨rfl, rfl, rfl, rfl, trivial⟩ ?_
        exact ih s449 (x3 + 7) x1000 x1001 hG_s449 trivial ⟨by omega, by omega⟩ (by first | exact x_rb b_x1000 rfl rfl | exact ⟨by omega, by omega⟩) (by first | exact x_rb b_x1001 rfl rfl | exact ⟨by omega, by omega⟩) (by omega) (q450).symm (q451).symm J_s449  (by omega)
      · rw [c5]
        refine x_B k231_33 rfl (fun _ => rfl) (fun _ => rfl) (fun _ _ => rfl) ?_
        show xe (some (N, xs)) 231 1115 [(0, .ref 2000), (1, .ref 0), (2, .ref 256), (3, vi x3)] [] s 295 10442 _
        refine x_A k231_1115 (fun _ => rfl) ?_
        refine x_A k231_1116 (fun _ => rfl) ?_
        refine x_A k231_1117 (fun _ => rfl) ?_
        refine x_A k231_1118 (fun _ => rfl) ?_
        refine x_iadd k231_1119 ?_
        refine x_top (fun z452 e_z452 => ?_)
        refine x_scr k231_1120 hN ⟨by omega, by omega⟩ (fun z453 g_z453 e_z453 => ?_)
        unfold in32 at g_z453
        refine x_A k231_1121 (fun _ => rfl) ?_
        refine x_A k231_1122 (fun _ => rfl) ?_
        refine x_A k231_1123 (fun _ => rfl) ?_
        refine x_iadd k231_1124 ?_
        refine x_top (fun z454 e_z454 => ?_)
        refine x_scr k231_1125 hN ⟨by omega, by omega⟩ (fun z455 g_z455 e_z455 => ?_)
        unfold in32 at g_z455
        refine x_callV k231_1126 (y := 116) (n := 2) (w0 := 0) (w1 := 2) (as := [vi z453, vi z455]) (rest := []) (by decide +kernel) (q := 0) (nq := 12) (kq := 3) ⟨by decide, rfl⟩ rfl rfl rfl rfl (xe_mono (C_X10_lacking_0 s hG i_J z453 (by first | exact x_rbe e_z453 g_z453 rfl rfl | exact x_rb g_z453 rfl rfl | exact ⟨by omega, by omega⟩) z455 (by first | exact x_rbe e_z455 g_z455 rfl rfl | exact x_rb g_z455 rfl rfl | exact ⟨by omega, by omega⟩)) ?_)
        rintro s457 v ⟨hG_s457, t_s457, z456, rfl, b_z456⟩
        have q458 : s457 231 3 = x1000 := (t_s457 231 3 (show 2884 ∉ [3329, 3334, 3335, 3336, 3392, 3456, 3520, 3584, 3276, 3648, 3712, 3776, 3840, 3904, 3968, 3277, 4032] from by decide +kernel)).trans e_x1000.symm
        have q459 : s457 256 58 = x1001 := (t_s457 256 58 (show 4155 ∉ [3329, 3334, 3335, 3336, 3392, 3456, 3520, 3584, 3276, 3648, 3712, 3776, 3840, 3904, 3968, 3277, 4032] from by decide +kernel)).trans e_x1001.symm
        have J_s457 : J s457 := J.fl i_J t_s457 (by decide +kernel)
        show xe (some (N, xs)) 231 1129 [(0, .ref 2000), (1, .ref 0), (2, .ref 256), (3, vi x3)] [vj z456] s457 295 10442 _
        refine x_A k231_1129 (fun _ => rfl) ?_
        refine x_A k231_1130 (fun _ => rfl) ?_
        refine x_A k231_1131 (fun _ => rfl) ?_
        refine x_A k231_1132 (fun _ => rfl) ?_
        refine x_A k231_1133 (fun _ => rfl) ?_
        refine x_iadd k231_1134 ?_
        refine x_top (fun z460 e_z460 => ?_)
        refine x_scr k231_1135 hN ⟨by omega, by omega⟩ (fun z461 g_z461 e_z461 => ?_)
        unfold in32 at g_z461
        have q_z461 : z461 = z453 := by rw [e_z461, e_z453, show z460 = z452 by omega]
        refine x_A k231_1136 (fun _ => rfl) ?_
        refine x_A k231_1137 (fun _ => rfl) ?_
        refine x_A k231_1138 (fun _ => rfl) ?_
        refine x_iadd k231_1139 ?_
        refine x_top (fun z462 e_z462 => ?_)
        refine x_scr k231_1140 hN ⟨by omega, by omega⟩ (fun z463 g_z463 e_z463 => ?_)
        unfold in32 at g_z463
        have q_z463 : z463 = z455 := by rw [e_z463, e_z455, show z462 = z454 by omega]
        refine x_callV k231_1141 (y := 214) (n := 2) (w0 := 0) (w1 := 2) (as := [vi z461, vi z463]) (rest := []) (by decide +kernel) (q := 256) (nq := 62) (kq := 15) ⟨by decide, rfl⟩ rfl rfl rfl rfl (xe_mono (C_X11_lacking_256 s457 hG_s457 J_s457 z461 (by first | exact x_rbe e_z461 g_z461 rfl rfl | exact x_rb g_z461 rfl rfl | exact ⟨by omega, by omega⟩) z463 (by first | exact x_rbe e_z463 g_z463 rfl rfl | exact x_rb g_z463 rfl rfl | exact ⟨by omega, by omega⟩)) ?_)
        rintro s465 v ⟨hG_s465, t_s465, z464, rfl, b_z464⟩
        have q466 : s465 231 3 = x1000 := (t_s465 231 3 (show 2884 ∉ [5312, 5376, 4123, 5440, 5504, 5568, 5632, 5696, 5760] from by decide +kernel)).trans q458
        have q467 : s465 256 58 = x1001 := (t_s465 256 58 (show 4155 ∉ [5312, 5376, 4123, 5440, 5504, 5568, 5632, 5696, 5760] from by decide +kernel)).trans q459
        have J_s465 : J s465 := J.fl J_s457 t_s465 (by decide +kernel)
        show xe (some (N, xs)) 231 1144 [(0, .ref 2000), (1, .ref 0), (2, .ref 256), (3, vi x3)] [vj z464] s465 295 10442 _
        refine x_A k231_1144 (fun _ => rfl) ?_
        refine x_goto k231_1145 (t := 1300) rfl ?_
        refine x_iinc k231_1300 (ls' := [(3, vi (x3 + 7)), (0, .ref 2000), (1, .ref 0), (2, .ref 256)]) rfl (by decide) rfl ?_
        refine x_goto k231_1303 (t := 18) rfl ?_
        refine x_ls (l := [(0, .ref 2000), (1, .ref 0), (2, .ref 256), (3, vi (x3 + 7))]) (show ([0, 1, 2, 3] : List Nat).Nodup from by decide +kernel) ⟨rfl, rfl, rfl, rfl, trivial⟩ ?_
        exact ih s465 (x3 + 7) x1000 x1001 hG_s465 trivial ⟨by omega, by omega⟩ (by first | exact x_rb b_x1000 rfl rfl | exact ⟨by omega, by omega⟩) (by first | exact x_rb b_x1001 rfl rfl | exact ⟨by omega, by omega⟩) (by omega) (q466).symm (q467).symm J_s465  (by omega)
      · rw [c5]
        refine x_B k231_33 rfl (fun _ => rfl) (fun _ => rfl) (fun _ _ => rfl) ?_
        show xe (some (N, xs)) 231 1148 [(0, .ref 2000), (1, .ref 0), (2, .ref 256), (3, vi x3)] [] s 295 10442 _
        refine x_A k231_1148 (fun _ => rfl) ?_
        refine x_callV k231_1149 (y := 117) (n := 0) (w0 := 0) (w1 := 0) (as := []) (rest := []) (by decide +kernel) (q := 0) (nq := 12) (kq := 3) ⟨by decide, rfl⟩ rfl rfl rfl rfl (xe_mono (E_X10_story_0 s hG) ?_)
        rintro s469 v ⟨hG_s469, t_s469, z468, rfl, g_z468, xp_z468⟩
        have q470 : s469 256 58 = x1001 := (t_s469 256 58 (show 4155 ∉ [2884] from by decide +kernel)).trans e_x1001.symm
        have J_s469 : J s469 := J.fl i_J t_s469 (by decide +kernel)
        obtain ⟨z471, e_z471⟩ : ∃ z, z = s469 231 3 := ⟨_, rfl⟩
        have g_z471 : (0 : Int) ≤ s469 231 3 ∧ s469 231 3 ≤ 4 := hG_s469 231 3
        show xe (some (N, xs)) 231 1152 [(0, .ref 2000), (1, .ref 0), (2, .ref 256), (3, vi x3)] [vi z468] s469 295 10442 _
        refine x_A k231_1152 (fun _ => rfl) ?_
        refine x_callV k231_1153 (y := 215) (n := 0) (w0 := 1) (w1 := 0) (as := []) (rest := [vi z468]) (by decide +kernel) (q := 256) (nq := 62) (kq := 15) ⟨by decide, rfl⟩ rfl rfl rfl rfl (xe_mono (E_X11_story_256 s469 hG_s469) ?_)
        rintro s473 v ⟨hG_s473, t_s473, z472, rfl, g_z472, xp_z472⟩
        have q474 : s473 231 3 = z471 := (t_s473 231 3 (show 2884 ∉ [4155, 6400] from by decide +kernel)).trans e_z471.symm
        have J_s473 : J s473 := J.fl J_s469 t_s473 (by decide +kernel)
        obtain ⟨z475, e_z475⟩ : ∃ z, z = s473 256 58 := ⟨_, rfl⟩
        have g_z475 : (0 : Int) ≤ s473 256 58 ∧ s473 256 58 ≤ 4 := hG_s473 256 58
        show xe (some (N, xs)) 231 1156 [(0, .ref 2000), (1, .ref 0), (2, .ref 256), (3, vi x3)] [vi z472, vi z468] s473 295 10442 _
        refine x_ic_eq k231_1156 (t := 1300) rfl (by first | exact x_rbe e_z468 g_z468 rfl rfl | exact x_rb g_z468 rfl rfl | exact ⟨by omega, by omega⟩) (by first | exact x_rbe e_z472 g_z472 rfl rfl | exact x_rb g_z472 rfl rfl | exact ⟨by omega, by omega⟩) (fun c476 => ?_) (fun c476 => ?_)
        · skip
          refine x_iinc k231_1300 (ls' := [(3, vi (x3 + 7)), (0, .ref 2000), (1, .ref 0), (2, .ref 256)]) rfl (by decide) rfl ?_
          refine x_goto k231_1303 (t := 18) rfl ?_
          refine x_ls (l := [(0, .ref 2000), (1, .ref 0), (2, .ref 256), (3, vi (x3 + 7))]) (show ([0, 1, 2, 3] : List Nat).Nodup from by decide +kernel) ⟨rfl, rfl, rfl, rfl, trivial⟩ ?_
          exact ih s473 (x3 + 7) z471 z475 hG_s473 trivial ⟨by omega, by omega⟩ (by first | exact x_rbe e_z471 g_z471 rfl rfl | exact x_rb g_z471 rfl rfl | exact ⟨by omega, by omega⟩) (by first | exact x_rbe e_z475 g_z475 rfl rfl | exact x_rb g_z475 rfl rfl | exact ⟨by omega, by omega⟩) (by omega) (q474).symm (e_z475.symm).symm J_s473  (by omega)
        · skip
          refine x_A k231_1159 (fun _ => rfl) ?_
          exfalso; omega
      · rw [c5]
        refine x_B k231_33 rfl (fun _ => rfl) (fun _ => rfl) (fun _ _ => rfl) ?_
        show xe (some (N, xs)) 231 1161 [(0, .ref 2000), (1, .ref 0), (2, .ref 256), (3, vi x3)] [] s 295 10442 _
        refine x_A k231_1161 (fun _ => rfl) ?_
        refine x_A k231_1162 (fun _ => rfl) ?_
        refine x_A k231_1163 (fun _ => rfl) ?_
        refine x_A k231_1164 (fun _ => rfl) ?_
        refine x_iadd k231_1165 ?_
        refine x_top (fun z477 e_z477 => ?_)
        refine x_scr k231_1166 hN ⟨by omega, by omega⟩ (fun z478 g_z478 e_z478 => ?_)
        unfold in32 at g_z478
        refine x_A k231_1167 (fun _ => rfl) ?_
        refine x_A k231_1168 (fun _ => rfl) ?_
        refine x_A k231_1169 (fun _ => rfl) ?_
        refine x_iadd k231_1170 ?_
        refine x_top (fun z479 e_z479 => ?_)
        refine x_scr k231_1171 hN ⟨by omega, by omega⟩ (fun z480 g_z480 e_z480 => ?_)
        unfold in32 at g_z480
        refine x_A k231_1172 (fun _ => rfl) ?_
        refine x_A k231_1173 (fun _ => rfl) ?_
        refine x_A k231_1174 (fun _ => rfl) ?_
        refine x_iadd k231_1175 ?_
        refine x_top (fun z481 e_z481 => ?_)
        refine x_scr k231_1176 hN ⟨by omega, by omega⟩ (fun z482 g_z482 e_z482 => ?_)
        unfold in32 at g_z482
        refine x_callV k231_1177 (y := 118) (n := 3) (w0 := 0) (w1 := 3) (as := [vi z478, vi z480, vi z482]) (rest := []) (by decide +kernel) (q := 0) (nq := 12) (kq := 3) ⟨by decide, rfl⟩ rfl rfl rfl rfl (xe_mono (C_X10_moment_0 s hG z478 (by first | exact x_rbe e_z478 g_z478 rfl rfl | exact x_rb g_z478 rfl rfl | exact ⟨by omega, by omega⟩) z480 (by first | exact x_rbe e_z480 g_z480 rfl rfl | exact x_rb g_z480 rfl rfl | exact ⟨by omega, by omega⟩) z482 (by first | exact x_rbe e_z482 g_z482 rfl rfl | exact x_rb g_z482 rfl rfl | exact ⟨by omega, by omega⟩)) ?_)
        rintro s484 v ⟨hG_s484, t_s484, z483, rfl, g_z483⟩
        have q485 : s484 231 3 = x1000 := (t_s484 231 3 (show 2884 ∉ [2944, 3072, 3200] from by decide +kernel)).trans e_x1000.symm
        have q486 : s484 256 58 = x1001 := (t_s484 256 58 (show 4155 ∉ [2944, 3072, 3200] from by decide +kernel)).trans e_x1001.symm
        have J_s484 : J s484 := J.fl i_J t_s484 (by decide +kernel)
        show xe (some (N, xs)) 231 1180 [(0, .ref 2000), (1, .ref 0), (2, .ref 256), (3, vi x3)] [vi z483] s484 295 10442 _
        refine x_A k231_1180 (fun _ => rfl) ?_
        refine x_A k231_1181 (fun _ => rfl) ?_
        refine x_A k231_1182 (fun _ => rfl) ?_
        refine x_A k231_1183 (fun _ => rfl) ?_
        refine x_A k231_1184 (fun _ => rfl) ?_
        refine x_iadd k231_1185 ?_
        refine x_top (fun z487 e_z487 => ?_)
        refine x_scr k231_1186 hN ⟨by omega, by omega⟩ (fun z488 g_z488 e_z488 => ?_)
        unfold in32 at g_z488
        have q_z488 : z488 = z478 := by rw [e_z488, e_z478, show z487 = z477 by omega]
        refine x_A k231_1187 (fun _ => rfl) ?_
        refine x_A k231_1188 (fun _ => rfl) ?_
        refine x_A k231_1189 (fun _ => rfl) ?_
        refine x_iadd k231_1190 ?_
        refine x_top (fun z489 e_z489 => ?_)
        refine x_scr k231_1191 hN ⟨by omega, by omega⟩ (fun z490 g_z490 e_z490 => ?_)
        unfold in32 at g_z490
        have q_z490 : z490 = z480 := by rw [e_z490, e_z480, show z489 = z479 by omega]
        refine x_A k231_1192 (fun _ => rfl) ?_
        refine x_A k231_1193 (fun _ => rfl) ?_
        refine x_A k231_1194 (fun _ => rfl) ?_
        refine x_iadd k231_1195 ?_
        refine x_top (fun z491 e_z491 => ?_)
        refine x_scr k231_1196 hN ⟨by omega, by omega⟩ (fun z492 g_z492 e_z492 => ?_)
        unfold in32 at g_z492
        have q_z492 : z492 = z482 := by rw [e_z492, e_z482, show z491 = z481 by omega]
        refine x_callV k231_1197 (y := 216) (n := 3) (w0 := 0) (w1 := 3) (as := [vi z488, vi z490, vi z492]) (rest := []) (by decide +kernel) (q := 256) (nq := 62) (kq := 15) ⟨by decide, rfl⟩ rfl rfl rfl rfl (xe_mono (C_X11_moment_256 s484 hG_s484 z488 (by first | exact x_rbe e_z488 g_z488 rfl rfl | exact x_rb g_z488 rfl rfl | exact ⟨by omega, by omega⟩) z490 (by first | exact x_rbe e_z490 g_z490 rfl rfl | exact x_rb g_z490 rfl rfl | exact ⟨by omega, by omega⟩) z492 (by first | exact x_rbe e_z492 g_z492 rfl rfl | exact x_rb g_z492 rfl rfl | exact ⟨by omega, by omega⟩)) ?_)
        rintro s494 v ⟨hG_s494, t_s494, z493, rfl, g_z493⟩
        have q495 : s494 231 3 = x1000 := (t_s494 231 3 (show 2884 ∉ [6400, 6464, 6528] from by decide +kernel)).trans q485
        have q496 : s494 256 58 = x1001 := (t_s494 256 58 (show 4155 ∉ [6400, 6464, 6528] from by decide +kernel)).trans q486
        have J_s494 : J s494 := J.fl J_s484 t_s494 (by decide +kernel)
        show xe (some (N, xs)) 231 1200 [(0, .ref 2000), (1, .ref 0), (2, .ref 256), (3, vi x3)] [vi z493] s494 295 10442 _
        refine x_A k231_1200 (fun _ => rfl) ?_
        refine x_goto k231_1201 (t := 1300) rfl ?_
        refine x_iinc k231_1300 (ls' := [(3, vi (x3 + 7)), (0, .ref 2000), (1, .ref 0), (2, .ref 256)]) rfl (by decide) rfl ?_
        refine x_goto k231_1303 (t := 18) rfl ?_
        refine x_ls (l := [(0, .ref 2000), (1, .ref 0), (2, .ref 256), (3, vi (x3 + 7))]) (show ([0, 1, 2, 3] : List Nat).Nodup from by decide +kernel) ⟨rfl, rfl, rfl, rfl, trivial⟩ ?_
        exact ih s494 (x3 + 7) x1000 x1001 hG_s494 trivial ⟨by omega, by omega⟩ (by first | exact x_rb b_x1000 rfl rfl | exact ⟨by omega, by omega⟩) (by first | exact x_rb b_x1001 rfl rfl | exact ⟨by omega, by omega⟩) (by omega) (q495).symm (q496).symm J_s494  (by omega)
      · rw [c5]
        refine x_B k231_33 rfl (fun _ => rfl) (fun _ => rfl) (fun _ _ => rfl) ?_
        show xe (some (N, xs)) 231 1204 [(0, .ref 2000), (1, .ref 0), (2, .ref 256), (3, vi x3)] [] s 295 10442 _
        refine x_A k231_1204 (fun _ => rfl) ?_
        refine x_A k231_1205 (fun _ => rfl) ?_
        refine x_A k231_1206 (fun _ => rfl) ?_
        refine x_A k231_1207 (fun _ => rfl) ?_
        refine x_iadd k231_1208 ?_
        refine x_top (fun z497 e_z497 => ?_)
        refine x_scr k231_1209 hN ⟨by omega, by omega⟩ (fun z498 g_z498 e_z498 => ?_)
        unfold in32 at g_z498
        refine x_A k231_1210 (fun _ => rfl) ?_
        refine x_A k231_1211 (fun _ => rfl) ?_
        refine x_A k231_1212 (fun _ => rfl) ?_
        refine x_iadd k231_1213 ?_
        refine x_top (fun z499 e_z499 => ?_)
        refine x_scr k231_1214 hN ⟨by omega, by omega⟩ (fun z500 g_z500 e_z500 => ?_)
        unfold in32 at g_z500
        refine x_A k231_1215 (fun _ => rfl) ?_
        refine x_A k231_1216 (fun _ => rfl) ?_
        refine x_A k231_1217 (fun _ => rfl) ?_
        refine x_iadd k231_1218 ?_
        refine x_top (fun z501 e_z501 => ?_)
        refine x_scr k231_1219 hN ⟨by omega, by omega⟩ (fun z502 g_z502 e_z502 => ?_)
        unfold in32 at g_z502
        refine x_A k231_1220 (fun _ => rfl) ?_
        refine x_A k231_1221 (fun _ => rfl) ?_
        refine x_A k231_1222 (fun _ => rfl) ?_
        refine x_iadd k231_1223 ?_
        refine x_top (fun z503 e_z503 => ?_)
        refine x_scr k231_1224 hN ⟨by omega, by omega⟩ (fun z504 g_z504 e_z504 => ?_)
        unfold in32 at g_z504
        refine x_callV k231_1225 (y := 119) (n := 4) (w0 := 0) (w1 := 4) (as := [vi z498, vi z500, vi z502, vi z504]) (rest := []) (by decide +kernel) (q := 0) (nq := 12) (kq := 3) ⟨by decide, rfl⟩ rfl rfl rfl rfl (xe_mono (C_X10_of_0 s hG i_J z498 (by first | exact x_rbe e_z498 g_z498 rfl rfl | exact x_rb g_z498 rfl rfl | exact ⟨by omega, by omega⟩) z500 (by first | exact x_rbe e_z500 g_z500 rfl rfl | exact x_rb g_z500 rfl rfl | exact ⟨by omega, by omega⟩) z502 (by first | exact x_rbe e_z502 g_z502 rfl rfl | exact x_rb g_z502 rfl rfl | exact ⟨by omega, by omega⟩) z504 (by first | exact x_rbe e_z504 g_z504 rfl rfl | exact x_rb g_z504 rfl rfl | exact ⟨by omega, by omega⟩)) ?_)
        rintro s506 v ⟨hG_s506, t_s506, z505, rfl, g_z505⟩
        have q507 : s506 231 3 = x1000 := (t_s506 231 3 (show 2884 ∉ [3329, 3334, 3335, 3336, 3392, 3456, 3520, 3584, 3276, 3648, 3712, 3776, 3840, 3904, 3968, 3277, 4032] from by decide +kernel)).trans e_x1000.symm
        have q508 : s506 256 58 = x1001 := (t_s506 256 58 (show 4155 ∉ [3329, 3334, 3335, 3336, 3392, 3456, 3520, 3584, 3276, 3648, 3712, 3776, 3840, 3904, 3968, 3277, 4032] from by decide +kernel)).trans e_x1001.symm
        have J_s506 : J s506 := J.fl i_J t_s506 (by decide +kernel)
        show xe (some (N, xs)) 231 1228 [(0, .ref 2000), (1, .ref 0), (2, .ref 256), (3, vi x3)] [vi z505] s506 295 10442 _
        refine x_A k231_1228 (fun _ => rfl) ?_
        refine x_A k231_1229 (fun _ => rfl) ?_
        refine x_A k231_1230 (fun _ => rfl) ?_
        refine x_A k231_1231 (fun _ => rfl) ?_
        refine x_A k231_1232 (fun _ => rfl) ?_
        refine x_iadd k231_1233 ?_
        refine x_top (fun z509 e_z509 => ?_)
        refine x_scr k231_1234 hN ⟨by omega, by omega⟩ (fun z510 g_z510 e_z510 => ?_)
        unfold in32 at g_z510
        have q_z510 : z510 = z498 := by rw [e_z510, e_z498, show z509 = z497 by omega]
        refine x_A k231_1235 (fun _ => rfl) ?_
        refine x_A k231_1236 (fun _ => rfl) ?_
        refine x_A k231_1237 (fun _ => rfl) ?_
        refine x_iadd k231_1238 ?_
        refine x_top (fun z511 e_z511 => ?_)
        refine x_scr k231_1239 hN ⟨by omega, by omega⟩ (fun z512 g_z512 e_z512 => ?_)
        unfold in32 at g_z512
        have q_z512 : z512 = z500 := by rw [e_z512, e_z500, show z511 = z499 by omega]
        refine x_A k231_1240 (fun _ => rfl) ?_
        refine x_A k231_1241 (fun _ => rfl) ?_
        refine x_A k231_1242 (fun _ => rfl) ?_
        refine x_iadd k231_1243 ?_
        refine x_top (fun z513 e_z513 => ?_)
        refine x_scr k231_1244 hN ⟨by omega, by omega⟩ (fun z514 g_z514 e_z514 => ?_)
        unfold in32 at g_z514
        have q_z514 : z514 = z502 := by rw [e_z514, e_z502, show z513 = z501 by omega]
        refine x_A k231_1245 (fun _ => rfl) ?_
        refine x_A k231_1246 (fun _ => rfl) ?_
        refine x_A k231_1247 (fun _ => rfl) ?_
        refine x_iadd k231_1248 ?_
        refine x_top (fun z515 e_z515 => ?_)
        refine x_scr k231_1249 hN ⟨by omega, by omega⟩ (fun z516 g_z516 e_z516 => ?_)
        unfold in32 at g_z516
        have q_z516 : z516 = z504 := by rw [e_z516, e_z504, show z515 = z503 by omega]
        refine x_callV k231_1250 (y := 217) (n := 4) (w0 := 0) (w1 := 4) (as := [vi z510, vi z512, vi z514, vi z516]) (rest := []) (by decide +kernel) (q := 256) (nq := 62) (kq := 15) ⟨by decide, rfl⟩ rfl rfl rfl rfl (xe_mono (C_X11_of_256 s506 hG_s506 J_s506 z510 (by first | exact x_rbe e_z510 g_z510 rfl rfl | exact x_rb g_z510 rfl rfl | exact ⟨by omega, by omega⟩) z512 (by first | exact x_rbe e_z512 g_z512 rfl rfl | exact x_rb g_z512 rfl rfl | exact ⟨by omega, by omega⟩) z514 (by first | exact x_rbe e_z514 g_z514 rfl rfl | exact x_rb g_z514 rfl rfl | exact ⟨by omega, by omega⟩) z516 (by first | exact x_rbe e_z516 g_z516 rfl rfl | exact x_rb g_z516 rfl rfl | exact ⟨by omega, by omega⟩)) ?_)
        rintro s518 v ⟨hG_s518, t_s518, z517, rfl, g_z517⟩
        have q519 : s518 231 3 = x1000 := (t_s518 231 3 (show 2884 ∉ [5312, 5376, 4123, 5440, 5504, 5568, 5632, 5696, 5760] from by decide +kernel)).trans q507
        have q520 : s518 256 58 = x1001 := (t_s518 256 58 (show 4155 ∉ [5312, 5376, 4123, 5440, 5504, 5568, 5632, 5696, 5760] from by decide +kernel)).trans q508
        have J_s518 : J s518 := J.fl J_s506 t_s518 (by decide +kernel)
        show xe (some (N, xs)) 231 1253 [(0, .ref 2000), (1, .ref 0), (2, .ref 256), (3, vi x3)] [vi z517] s518 295 10442 _
        refine x_A k231_1253 (fun _ => rfl) ?_
        refine x_goto k231_1254 (t := 1300) rfl ?_
        refine x_iinc k231_1300 (ls' := [(3, vi (x3 + 7)), (0, .ref 2000), (1, .ref 0), (2, .ref 256)]) rfl (by decide) rfl ?_
        refine x_goto k231_1303 (t := 18) rfl ?_
        refine x_ls (l := [(0, .ref 2000), (1, .ref 0), (2, .ref 256), (3, vi (x3 + 7))]) (show ([0, 1, 2, 3] : List Nat).Nodup from by decide +kernel) ⟨rfl, rfl, rfl, rfl, trivial⟩ ?_
        exact ih s518 (x3 + 7) x1000 x1001 hG_s518 trivial ⟨by omega, by omega⟩ (by first | exact x_rb b_x1000 rfl rfl | exact ⟨by omega, by omega⟩) (by first | exact x_rb b_x1001 rfl rfl | exact ⟨by omega, by omega⟩) (by omega) (q519).symm (q520).symm J_s518  (by omega)
      · rw [c5]
        refine x_B k231_33 rfl (fun _ => rfl) (fun _ => rfl) (fun _ _ => rfl) ?_
        show xe (some (N, xs)) 231 1257 [(0, .ref 2000), (1, .ref 0), (2, .ref 256), (3, vi x3)] [] s 295 10442 _
        refine x_A k231_1257 (fun _ => rfl) ?_
        refine x_A k231_1258 (fun _ => rfl) ?_
        refine x_A k231_1259 (fun _ => rfl) ?_
        refine x_A k231_1260 (fun _ => rfl) ?_
        refine x_iadd k231_1261 ?_
        refine x_top (fun z521 e_z521 => ?_)
        refine x_scr k231_1262 hN ⟨by omega, by omega⟩ (fun z522 g_z522 e_z522 => ?_)
        unfold in32 at g_z522
        refine x_A k231_1263 (fun _ => rfl) ?_
        refine x_A k231_1264 (fun _ => rfl) ?_
        refine x_A k231_1265 (fun _ => rfl) ?_
        refine x_iadd k231_1266 ?_
        refine x_top (fun z523 e_z523 => ?_)
        refine x_scr k231_1267 hN ⟨by omega, by omega⟩ (fun z524 g_z524 e_z524 => ?_)
        unfold in32 at g_z524
        refine x_A k231_1268 (fun _ => rfl) ?_
        refine x_A k231_1269 (fun _ => rfl) ?_
        refine x_A k231_1270 (fun _ => rfl) ?_
        refine x_iadd k231_1271 ?_
        refine x_top (fun z525 e_z525 => ?_)
        refine x_scr k231_1272 hN ⟨by omega, by omega⟩ (fun z526 g_z526 e_z526 => ?_)
        unfold in32 at g_z526
        refine x_callV k231_1273 (y := 120) (n := 3) (w0 := 0) (w1 := 3) (as := [vi z522, vi z524, vi z526]) (rest := []) (by decide +kernel) (q := 0) (nq := 12) (kq := 3) ⟨by decide, rfl⟩ rfl rfl rfl rfl (xe_mono (C_X10_split_0 s hG i_J z522 (by first | exact x_rbe e_z522 g_z522 rfl rfl | exact x_rb g_z522 rfl rfl | exact ⟨by omega, by omega⟩) z524 (by first | exact x_rbe e_z524 g_z524 rfl rfl | exact x_rb g_z524 rfl rfl | exact ⟨by omega, by omega⟩) z526 (by first | exact x_rbe e_z526 g_z526 rfl rfl | exact x_rb g_z526 rfl rfl | exact ⟨by omega, by omega⟩)) ?_)
        rintro s528 v ⟨hG_s528, t_s528, z527, rfl, g_z527⟩
        have q529 : s528 231 3 = x1000 := (t_s528 231 3 (show 2884 ∉ [3329, 3334, 3335, 3336, 3392, 3456, 3520, 3584, 3276, 3648, 3712, 3776, 3840, 3904, 3968, 3277, 4032] from by decide +kernel)).trans e_x1000.symm
        have q530 : s528 256 58 = x1001 := (t_s528 256 58 (show 4155 ∉ [3329, 3334, 3335, 3336, 3392, 3456, 3520, 3584, 3276, 3648, 3712, 3776, 3840, 3904, 3968, 3277, 4032] from by decide +kernel)).trans e_x1001.symm
        have J_s528 : J s528 := J.fl i_J t_s528 (by decide +kernel)
        show xe (some (N, xs)) 231 1276 [(0, .ref 2000), (1, .ref 0), (2, .ref 256), (3, vi x3)] [vi z527] s528 295 10442 _
        refine x_A k231_1276 (fun _ => rfl) ?_
        refine x_A k231_1277 (fun _ => rfl) ?_
        refine x_A k231_1278 (fun _ => rfl) ?_
        refine x_A k231_1279 (fun _ => rfl) ?_
        refine x_A k231_1280 (fun _ => rfl) ?_
        refine x_iadd k231_1281 ?_
        refine x_top (fun z531 e_z531 => ?_)
        refine x_scr k231_1282 hN ⟨by omega, by omega⟩ (fun z532 g_z532 e_z532 => ?_)
        unfold in32 at g_z532
        have q_z532 : z532 = z522 := by rw [e_z532, e_z522, show z531 = z521 by omega]
        refine x_A k231_1283 (fun _ => rfl) ?_
        refine x_A k231_1284 (fun _ => rfl) ?_
        refine x_A k231_1285 (fun _ => rfl) ?_
        refine x_iadd k231_1286 ?_
        refine x_top (fun z533 e_z533 => ?_)
        refine x_scr k231_1287 hN ⟨by omega, by omega⟩ (fun z534 g_z534 e_z534 => ?_)
        unfold in32 at g_z534
        have q_z534 : z534 = z524 := by rw [e_z534, e_z524, show z533 = z523 by omega]
        refine x_A k231_1288 (fun _ => rfl) ?_
        refine x_A k231_1289 (fun _ => rfl) ?_
        refine x_A k231_1290 (fun _ => rfl) ?_
        refine x_iadd k231_1291 ?_
        refine x_top (fun z535 e_z535 => ?_)
        refine x_scr k231_1292 hN ⟨by omega, by omega⟩ (fun z536 g_z536 e_z536 => ?_)
        unfold in32 at g_z536
        have q_z536 : z536 = z526 := by rw [e_z536, e_z526, show z535 = z525 by omega]
        refine x_callV k231_1293 (y := 218) (n := 3) (w0 := 0) (w1 := 3) (as := [vi z532, vi z534, vi z536]) (rest := []) (by decide +kernel) (q := 256) (nq := 62) (kq := 15) ⟨by decide, rfl⟩ rfl rfl rfl rfl (xe_mono (C_X11_split_256 s528 hG_s528 J_s528 z532 (by first | exact x_rbe e_z532 g_z532 rfl rfl | exact x_rb g_z532 rfl rfl | exact ⟨by omega, by omega⟩) z534 (by first | exact x_rbe e_z534 g_z534 rfl rfl | exact x_rb g_z534 rfl rfl | exact ⟨by omega, by omega⟩) z536 (by first | exact x_rbe e_z536 g_z536 rfl rfl | exact x_rb g_z536 rfl rfl | exact ⟨by omega, by omega⟩)) ?_)
        rintro s538 v ⟨hG_s538, t_s538, z537, rfl, g_z537⟩
        have q539 : s538 231 3 = x1000 := (t_s538 231 3 (show 2884 ∉ [5312, 5376, 4123, 5440, 5504, 5568, 5632, 5696, 5760] from by decide +kernel)).trans q529
        have q540 : s538 256 58 = x1001 := (t_s538 256 58 (show 4155 ∉ [5312, 5376, 4123, 5440, 5504, 5568, 5632, 5696, 5760] from by decide +kernel)).trans q530
        have J_s538 : J s538 := J.fl J_s528 t_s538 (by decide +kernel)
        show xe (some (N, xs)) 231 1296 [(0, .ref 2000), (1, .ref 0), (2, .ref 256), (3, vi x3)] [vi z537] s538 295 10442 _
        refine x_A k231_1296 (fun _ => rfl) ?_
        refine x_goto k231_1297 (t := 1300) rfl ?_
        refine x_iinc k231_1300 (ls' := [(3, vi (x3 + 7)), (0, .ref 2000), (1, .ref 0), (2, .ref 256)]) rfl (by decide) rfl ?_
        refine x_goto k231_1303 (t := 18) rfl ?_
        refine x_ls (l := [(0, .ref 2000), (1, .ref 0), (2, .ref 256), (3, vi (x3 + 7))]) (show ([0, 1, 2, 3] : List Nat).Nodup from by decide +kernel) ⟨rfl, rfl, rfl, rfl, trivial⟩ ?_
        exact ih s538 (x3 + 7) x1000 x1001 hG_s538 trivial ⟨by omega, by omega⟩ (by first | exact x_rb b_x1000 rfl rfl | exact ⟨by omega, by omega⟩) (by first | exact x_rb b_x1001 rfl rfl | exact ⟨by omega, by omega⟩) (by omega) (q539).symm (q540).symm J_s538  (by omega)
      · refine x_tabD k231_33 ⟨by omega, by omega⟩ c5 (t0 := 1300) rfl ?_
        refine x_iinc k231_1300 (ls' := [(3, vi (x3 + 7)), (0, .ref 2000), (1, .ref 0), (2, .ref 256)]) rfl (by decide) rfl ?_
        refine x_goto k231_1303 (t := 18) rfl ?_
        refine x_ls (l := [(0, .ref 2000), (1, .ref 0), (2, .ref 256), (3, vi (x3 + 7))]) (show ([0, 1, 2, 3] : List Nat).Nodup from by decide +kernel) ⟨rfl, rfl, rfl, rfl, trivial⟩ ?_
        exact ih s (x3 + 7) x1000 x1001 hG f ⟨by omega, by omega⟩ (by first | exact x_rb b_x1000 rfl rfl | exact ⟨by omega, by omega⟩) (by first | exact x_rb b_x1001 rfl rfl | exact ⟨by omega, by omega⟩) (by omega) (e_x1000.symm).symm (e_x1001.symm).symm i_J  (by omega)
