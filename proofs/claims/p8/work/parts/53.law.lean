set_option maxHeartbeats 8000000 in
theorem law_loop (N : Nat) (xs : Nat → Int32) (hN : N ≤ 3584)  : ∀ (n : Nat) (s : xS) (x3 : Int) (x1000 : Int) (x1001 : Int) (hG : GI s) (f : True) (b_x3 : 0 ≤ x3 ∧ x3 ≤ 3584) (b_x1000 : 0 ≤ x1000 ∧ x1000 ≤ 40) (b_x1001 : 0 ≤ x1001 ∧ x1001 ≤ 40) (w_0 : x1000 = x1001) (e_x1000 : x1000 = s 46 3) (e_x1001 : x1001 = s 256 6) (i_J : J s)  (hm : (3584 - x3) < (n : Int)), xe (some (N, xs)) 231 18 [(0, .ref 2000), (1, .ref 0), (2, .ref 256), (3, vi x3)] [] s 295 10442 (fun _ v => v = some (vi 1)) := by
  intro n
  induction n with
  | zero => intro s x3 x1000 x1001 hG f b_x3 b_x1000 b_x1001 w_0 e_x1000 e_x1001 i_J  hm; exfalso; omega
  | succ n ih =>
    intro s x3 x1000 x1001 hG f b_x3 b_x1000 b_x1001 w_0 e_x1000 e_x1001 i_J  hm
    refine x_A k231_18 (fun _ => rfl) ?_
    refine x_A k231_19 (fun _ => rfl) ?_
    refine x_slen k231_20 ?_
    refine x_bipush k231_21 (by decide +kernel) ?_
    refine x_isub k231_23 ?_
    refine x_top (fun z1 e_z1 => ?_)
    refine x_ic_gt k231_24 (t := 1306) rfl (by first | exact x_rb b_x3 rfl rfl | exact ⟨by omega, by omega⟩) (by first | exact x_rbe e_z1 g_z1 rfl rfl | exact x_rb g_z1 rfl rfl | exact ⟨by omega, by omega⟩) (fun c2 => ?_) (fun c2 => ?_)
    · skip
      refine x_A k231_1306 (fun _ => rfl) ?_
      exact x_zret k231_1307 rfl ⟨by omega, by omega⟩ rfl
    · skip
      refine x_A k231_27 (fun _ => rfl) ?_
      refine x_A k231_28 (fun _ => rfl) ?_
      refine x_scr k231_29 hN ⟨by omega, by omega⟩ (fun z3 g_z3 e_z3 => ?_)
      unfold in32 at g_z3
      refine x_bipush k231_30 (by decide +kernel) ?_
      refine x_and_mask k231_32 ⟨by omega, by omega⟩ (fun z4 g_z4 => ?_)
      have c5 : z4 = 0 ∨ z4 = 1 ∨ z4 = 2 ∨ z4 = 3 ∨ z4 = 4 ∨ z4 = 5 ∨ z4 = 6 ∨ z4 = 7 ∨ z4 = 8 ∨ z4 = 9 ∨ z4 = 10 ∨ z4 = 11 ∨ z4 = 12 ∨ z4 = 13 ∨ z4 = 14 ∨ z4 = 15 ∨ z4 = 16 ∨ z4 = 17 ∨ z4 = 18 ∨ z4 = 19 ∨ z4 = 20 ∨ z4 = 21 ∨ z4 = 22 ∨ z4 = 23 ∨ z4 = 24 ∨ z4 = 25 ∨ z4 = 26 ∨ z4 = 27 ∨ z4 = 28 ∨ z4 = 29 ∨ ¬ (0 ≤ z4 ∧ z4 ≤ 29) := by omega
      rcases c5 with c5 | c5 | c5 | c5 | c5 | c5 | c5 | c5 | c5 | c5 | c5 | c5 | c5 | c5 | c5 | c5 | c5 | c5 | c5 | c5 | c5 | c5 | c5 | c5 | c5 | c5 | c5 | c5 | c5 | c5 | c5
      · rw [c5]
        refine x_B k231_33 rfl (fun _ => rfl) (fun _ => rfl) (fun _ _ => rfl) ?_
        show xe (some (N, xs)) 231 168 [(0, .ref 2000), (1, .ref 0), (2, .ref 256), (3, vi x3)] [] s 295 10442 _
        refine x_A k231_168 (fun _ => rfl) ?_
        refine x_callV k231_169 (y := 91) (n := 0) (w0 := 0) (w1 := 0) (as := []) (rest := []) (by decide +kernel) (q := 0) (nq := 12) (kq := 3) ⟨by decide, rfl⟩ rfl rfl rfl rfl (xe_mono (C_X10_edition_0 s hG) ?_)
        rintro s7 v ⟨hG_s7, t_s7, z6, rfl, g_z6, xp_z6⟩
        have q8 : s7 46 3 = x1000 := (t_s7 46 3 (show 452 ∉ [11] from by decide +kernel)).trans e_x1000.symm
        have q9 : s7 256 6 = x1001 := (t_s7 256 6 (show 4103 ∉ [11] from by decide +kernel)).trans e_x1001.symm
        have J_s7 : J s7 := J.fl i_J t_s7 (by decide +kernel)
        obtain ⟨z10, e_z10⟩ : ∃ z, z = s7 0 10 := ⟨_, rfl⟩
        have g_z10 : (0 : Int) ≤ s7 0 10 ∧ s7 0 10 ≤ 9 := hG_s7 0 10
        show xe (some (N, xs)) 231 172 [(0, .ref 2000), (1, .ref 0), (2, .ref 256), (3, vi x3)] [vi z6] s7 295 10442 _
        refine x_A k231_172 (fun _ => rfl) ?_
        refine x_A k231_173 (fun _ => rfl) ?_
        refine x_callV k231_174 (y := 145) (n := 0) (w0 := 0) (w1 := 0) (as := []) (rest := []) (by decide +kernel) (q := 256) (nq := 62) (kq := 15) ⟨by decide, rfl⟩ rfl rfl rfl rfl (xe_mono (D_X11_edition_256 s7 hG_s7 J_s7) ?_)
        rintro s12 v ⟨hG_s12, t_s12, z11, rfl, g_z11, xp_z11, J_s12⟩
        have q13 : s12 46 3 = x1000 := (t_s12 46 3 (show 452 ∉ [4097] from by decide +kernel)).trans q8
        have q14 : s12 256 6 = x1001 := (t_s12 256 6 (show 4103 ∉ [4097] from by decide +kernel)).trans q9
        have q15 : s12 0 10 = z10 := (t_s12 0 10 (show 11 ∉ [4097] from by decide +kernel)).trans e_z10.symm
        obtain ⟨z16, e_z16⟩ : ∃ z, z = s12 256 0 := ⟨_, rfl⟩
        have g_z16 : (0 : Int) ≤ s12 256 0 ∧ s12 256 0 ≤ 9 := hG_s12 256 0
        show xe (some (N, xs)) 231 177 [(0, .ref 2000), (1, .ref 0), (2, .ref 256), (3, vi x3)] [vi z11] s12 295 10442 _
        refine x_A k231_177 (fun _ => rfl) ?_
        refine x_goto k231_178 (t := 1300) rfl ?_
        refine x_iinc k231_1300 (ls' := [(3, vi (x3 + 7)), (0, .ref 2000), (1, .ref 0), (2, .ref 256)]) rfl (by decide) rfl ?_
        refine x_goto k231_1303 (t := 18) rfl ?_
        refine x_ls (l := [(0, .ref 2000), (1, .ref 0), (2, .ref 256), (3, vi (x3 + 7))]) (show ([0, 1, 2, 3] : List Nat).Nodup from by decide +kernel) ⟨rfl, rfl, rfl, rfl, trivial⟩ ?_
        exact ih s12 (x3 + 7) x1000 x1001 hG_s12 trivial ⟨by omega, by omega⟩ (by first | exact x_rb b_x1000 rfl rfl | exact ⟨by omega, by omega⟩) (by first | exact x_rb b_x1001 rfl rfl | exact ⟨by omega, by omega⟩) (by omega) (q13).symm (q14).symm J_s12  (by omega)
      · rw [c5]
        refine x_B k231_33 rfl (fun _ => rfl) (fun _ => rfl) (fun _ _ => rfl) ?_
        show xe (some (N, xs)) 231 181 [(0, .ref 2000), (1, .ref 0), (2, .ref 256), (3, vi x3)] [] s 295 10442 _
        refine x_A k231_181 (fun _ => rfl) ?_
        refine x_A k231_182 (fun _ => rfl) ?_
        refine x_A k231_183 (fun _ => rfl) ?_
        refine x_A k231_184 (fun _ => rfl) ?_
        refine x_iadd k231_185 ?_
        refine x_top (fun z17 e_z17 => ?_)
        refine x_scr k231_186 hN ⟨by omega, by omega⟩ (fun z18 g_z18 e_z18 => ?_)
        unfold in32 at g_z18
        refine x_callV k231_187 (y := 92) (n := 1) (w0 := 0) (w1 := 1) (as := [vi z18]) (rest := []) (by decide +kernel) (q := 0) (nq := 12) (kq := 3) ⟨by decide, rfl⟩ rfl rfl rfl rfl (xe_mono (C_X10_mark_0 s hG z18 (by first | exact x_rbe e_z18 g_z18 rfl rfl | exact x_rb g_z18 rfl rfl | exact ⟨by omega, by omega⟩)) ?_)
        rintro s20 v ⟨hG_s20, t_s20, z19, rfl, g_z19⟩
        have q21 : s20 46 3 = x1000 := (t_s20 46 3 (show 452 ∉ [69, 128, 384, 3276, 3277] from by decide +kernel)).trans e_x1000.symm
        have q22 : s20 256 6 = x1001 := (t_s20 256 6 (show 4103 ∉ [69, 128, 384, 3276, 3277] from by decide +kernel)).trans e_x1001.symm
        have J_s20 : J s20 := J.fl i_J t_s20 (by decide +kernel)
        show xe (some (N, xs)) 231 190 [(0, .ref 2000), (1, .ref 0), (2, .ref 256), (3, vi x3)] [vi z19] s20 295 10442 _
        refine x_A k231_190 (fun _ => rfl) ?_
        refine x_A k231_191 (fun _ => rfl) ?_
        refine x_A k231_192 (fun _ => rfl) ?_
        refine x_A k231_193 (fun _ => rfl) ?_
        refine x_A k231_194 (fun _ => rfl) ?_
        refine x_iadd k231_195 ?_
        refine x_top (fun z23 e_z23 => ?_)
        refine x_scr k231_196 hN ⟨by omega, by omega⟩ (fun z24 g_z24 e_z24 => ?_)
        unfold in32 at g_z24
        have q_z24 : z24 = z18 := by rw [e_z24, e_z18, show z23 = z17 by omega]
        refine x_callV k231_197 (y := 146) (n := 1) (w0 := 0) (w1 := 1) (as := [vi z24]) (rest := []) (by decide +kernel) (q := 256) (nq := 62) (kq := 15) ⟨by decide, rfl⟩ rfl rfl rfl rfl (xe_mono (D_X11_mark_256 s20 hG_s20 z24 (by first | exact x_rbe e_z24 g_z24 rfl rfl | exact x_rb g_z24 rfl rfl | exact ⟨by omega, by omega⟩) J_s20) ?_)
        rintro s26 v ⟨hG_s26, t_s26, z25, rfl, g_z25, J_s26⟩
        have q27 : s26 46 3 = x1000 := (t_s26 46 3 (show 452 ∉ [4098, 4160, 4224, 4288, 4352] from by decide +kernel)).trans q21
        have q28 : s26 256 6 = x1001 := (t_s26 256 6 (show 4103 ∉ [4098, 4160, 4224, 4288, 4352] from by decide +kernel)).trans q22
        show xe (some (N, xs)) 231 200 [(0, .ref 2000), (1, .ref 0), (2, .ref 256), (3, vi x3)] [vi z25] s26 295 10442 _
        refine x_A k231_200 (fun _ => rfl) ?_
        refine x_goto k231_201 (t := 1300) rfl ?_
        refine x_iinc k231_1300 (ls' := [(3, vi (x3 + 7)), (0, .ref 2000), (1, .ref 0), (2, .ref 256)]) rfl (by decide) rfl ?_
        refine x_goto k231_1303 (t := 18) rfl ?_
        refine x_ls (l := [(0, .ref 2000), (1, .ref 0), (2, .ref 256), (3, vi (x3 + 7))]) (show ([0, 1, 2, 3] : List Nat).Nodup from by decide +kernel) ⟨rfl, rfl, rfl, rfl, trivial⟩ ?_
        exact ih s26 (x3 + 7) x1000 x1001 hG_s26 trivial ⟨by omega, by omega⟩ (by first | exact x_rb b_x1000 rfl rfl | exact ⟨by omega, by omega⟩) (by first | exact x_rb b_x1001 rfl rfl | exact ⟨by omega, by omega⟩) (by omega) (q27).symm (q28).symm J_s26  (by omega)
      · rw [c5]
        refine x_B k231_33 rfl (fun _ => rfl) (fun _ => rfl) (fun _ _ => rfl) ?_
        show xe (some (N, xs)) 231 204 [(0, .ref 2000), (1, .ref 0), (2, .ref 256), (3, vi x3)] [] s 295 10442 _
        refine x_A k231_204 (fun _ => rfl) ?_
        refine x_A k231_205 (fun _ => rfl) ?_
        refine x_A k231_206 (fun _ => rfl) ?_
        refine x_A k231_207 (fun _ => rfl) ?_
        refine x_iadd k231_208 ?_
        refine x_top (fun z29 e_z29 => ?_)
        refine x_scr k231_209 hN ⟨by omega, by omega⟩ (fun z30 g_z30 e_z30 => ?_)
        unfold in32 at g_z30
        refine x_A k231_210 (fun _ => rfl) ?_
        refine x_A k231_211 (fun _ => rfl) ?_
        refine x_A k231_212 (fun _ => rfl) ?_
        refine x_iadd k231_213 ?_
        refine x_top (fun z31 e_z31 => ?_)
        refine x_scr k231_214 hN ⟨by omega, by omega⟩ (fun z32 g_z32 e_z32 => ?_)
        unfold in32 at g_z32
        refine x_callV k231_215 (y := 93) (n := 2) (w0 := 0) (w1 := 2) (as := [vi z30, vi z32]) (rest := []) (by decide +kernel) (q := 0) (nq := 12) (kq := 3) ⟨by decide, rfl⟩ rfl rfl rfl rfl (xe_mono (C_X10_move_0 s hG z30 (by first | exact x_rbe e_z30 g_z30 rfl rfl | exact x_rb g_z30 rfl rfl | exact ⟨by omega, by omega⟩) z32 (by first | exact x_rbe e_z32 g_z32 rfl rfl | exact x_rb g_z32 rfl rfl | exact ⟨by omega, by omega⟩)) ?_)
        rintro s34 v ⟨hG_s34, t_s34, z33, rfl, g_z33⟩
        have q35 : s34 46 3 = x1000 := (t_s34 46 3 (show 452 ∉ [384, 3276, 3277] from by decide +kernel)).trans e_x1000.symm
        have q36 : s34 256 6 = x1001 := (t_s34 256 6 (show 4103 ∉ [384, 3276, 3277] from by decide +kernel)).trans e_x1001.symm
        have J_s34 : J s34 := J.fl i_J t_s34 (by decide +kernel)
        show xe (some (N, xs)) 231 218 [(0, .ref 2000), (1, .ref 0), (2, .ref 256), (3, vi x3)] [vi z33] s34 295 10442 _
        refine x_A k231_218 (fun _ => rfl) ?_
        refine x_A k231_219 (fun _ => rfl) ?_
        refine x_A k231_220 (fun _ => rfl) ?_
        refine x_A k231_221 (fun _ => rfl) ?_
        refine x_A k231_222 (fun _ => rfl) ?_
        refine x_iadd k231_223 ?_
        refine x_top (fun z37 e_z37 => ?_)
        refine x_scr k231_224 hN ⟨by omega, by omega⟩ (fun z38 g_z38 e_z38 => ?_)
        unfold in32 at g_z38
        have q_z38 : z38 = z30 := by rw [e_z38, e_z30, show z37 = z29 by omega]
        refine x_A k231_225 (fun _ => rfl) ?_
        refine x_A k231_226 (fun _ => rfl) ?_
        refine x_A k231_227 (fun _ => rfl) ?_
        refine x_iadd k231_228 ?_
        refine x_top (fun z39 e_z39 => ?_)
        refine x_scr k231_229 hN ⟨by omega, by omega⟩ (fun z40 g_z40 e_z40 => ?_)
        unfold in32 at g_z40
        have q_z40 : z40 = z32 := by rw [e_z40, e_z32, show z39 = z31 by omega]
        refine x_callV k231_230 (y := 147) (n := 2) (w0 := 0) (w1 := 2) (as := [vi z38, vi z40]) (rest := []) (by decide +kernel) (q := 256) (nq := 62) (kq := 15) ⟨by decide, rfl⟩ rfl rfl rfl rfl (xe_mono (D_X11_move_256 s34 hG_s34 z38 (by first | exact x_rbe e_z38 g_z38 rfl rfl | exact x_rb g_z38 rfl rfl | exact ⟨by omega, by omega⟩) z40 (by first | exact x_rbe e_z40 g_z40 rfl rfl | exact x_rb g_z40 rfl rfl | exact ⟨by omega, by omega⟩) J_s34) ?_)
        rintro s42 v ⟨hG_s42, t_s42, z41, rfl, g_z41, J_s42⟩
        have q43 : s42 46 3 = x1000 := (t_s42 46 3 (show 452 ∉ [4352] from by decide +kernel)).trans q35
        have q44 : s42 256 6 = x1001 := (t_s42 256 6 (show 4103 ∉ [4352] from by decide +kernel)).trans q36
        show xe (some (N, xs)) 231 233 [(0, .ref 2000), (1, .ref 0), (2, .ref 256), (3, vi x3)] [vi z41] s42 295 10442 _
        refine x_A k231_233 (fun _ => rfl) ?_
        refine x_goto k231_234 (t := 1300) rfl ?_
        refine x_iinc k231_1300 (ls' := [(3, vi (x3 + 7)), (0, .ref 2000), (1, .ref 0), (2, .ref 256)]) rfl (by decide) rfl ?_
        refine x_goto k231_1303 (t := 18) rfl ?_
        refine x_ls (l := [(0, .ref 2000), (1, .ref 0), (2, .ref 256), (3, vi (x3 + 7))]) (show ([0, 1, 2, 3] : List Nat).Nodup from by decide +kernel) ⟨rfl, rfl, rfl, rfl, trivial⟩ ?_
        exact ih s42 (x3 + 7) x1000 x1001 hG_s42 trivial ⟨by omega, by omega⟩ (by first | exact x_rb b_x1000 rfl rfl | exact ⟨by omega, by omega⟩) (by first | exact x_rb b_x1001 rfl rfl | exact ⟨by omega, by omega⟩) (by omega) (q43).symm (q44).symm J_s42  (by omega)
      · rw [c5]
        refine x_B k231_33 rfl (fun _ => rfl) (fun _ => rfl) (fun _ _ => rfl) ?_
        show xe (some (N, xs)) 231 237 [(0, .ref 2000), (1, .ref 0), (2, .ref 256), (3, vi x3)] [] s 295 10442 _
        refine x_A k231_237 (fun _ => rfl) ?_
        refine x_A k231_238 (fun _ => rfl) ?_
        refine x_A k231_239 (fun _ => rfl) ?_
        refine x_A k231_240 (fun _ => rfl) ?_
        refine x_iadd k231_241 ?_
        refine x_top (fun z45 e_z45 => ?_)
        refine x_scr k231_242 hN ⟨by omega, by omega⟩ (fun z46 g_z46 e_z46 => ?_)
        unfold in32 at g_z46
        refine x_A k231_243 (fun _ => rfl) ?_
        refine x_A k231_244 (fun _ => rfl) ?_
        refine x_A k231_245 (fun _ => rfl) ?_
        refine x_iadd k231_246 ?_
        refine x_top (fun z47 e_z47 => ?_)
        refine x_scr k231_247 hN ⟨by omega, by omega⟩ (fun z48 g_z48 e_z48 => ?_)
        unfold in32 at g_z48
        refine x_callV k231_248 (y := 94) (n := 2) (w0 := 0) (w1 := 2) (as := [vi z46, vi z48]) (rest := []) (by decide +kernel) (q := 0) (nq := 12) (kq := 3) ⟨by decide, rfl⟩ rfl rfl rfl rfl (xe_mono (C_X10_end_0 s hG z46 (by first | exact x_rbe e_z46 g_z46 rfl rfl | exact x_rb g_z46 rfl rfl | exact ⟨by omega, by omega⟩) z48 (by first | exact x_rbe e_z48 g_z48 rfl rfl | exact x_rb g_z48 rfl rfl | exact ⟨by omega, by omega⟩)) ?_)
        rintro s50 v ⟨hG_s50, t_s50, z49, rfl, g_z49⟩
        have q51 : s50 46 3 = x1000 := (t_s50 46 3 (show 452 ∉ [192, 256, 3276, 3277] from by decide +kernel)).trans e_x1000.symm
        have q52 : s50 256 6 = x1001 := (t_s50 256 6 (show 4103 ∉ [192, 256, 3276, 3277] from by decide +kernel)).trans e_x1001.symm
        have J_s50 : J s50 := J.fl i_J t_s50 (by decide +kernel)
        show xe (some (N, xs)) 231 251 [(0, .ref 2000), (1, .ref 0), (2, .ref 256), (3, vi x3)] [vi z49] s50 295 10442 _
        refine x_A k231_251 (fun _ => rfl) ?_
        refine x_A k231_252 (fun _ => rfl) ?_
        refine x_A k231_253 (fun _ => rfl) ?_
        refine x_A k231_254 (fun _ => rfl) ?_
        refine x_A k231_255 (fun _ => rfl) ?_
        refine x_iadd k231_256 ?_
        refine x_top (fun z53 e_z53 => ?_)
        refine x_scr k231_257 hN ⟨by omega, by omega⟩ (fun z54 g_z54 e_z54 => ?_)
        unfold in32 at g_z54
        have q_z54 : z54 = z46 := by rw [e_z54, e_z46, show z53 = z45 by omega]
        refine x_A k231_258 (fun _ => rfl) ?_
        refine x_A k231_259 (fun _ => rfl) ?_
        refine x_A k231_260 (fun _ => rfl) ?_
        refine x_iadd k231_261 ?_
        refine x_top (fun z55 e_z55 => ?_)
        refine x_scr k231_262 hN ⟨by omega, by omega⟩ (fun z56 g_z56 e_z56 => ?_)
        unfold in32 at g_z56
        have q_z56 : z56 = z48 := by rw [e_z56, e_z48, show z55 = z47 by omega]
        refine x_callV k231_263 (y := 148) (n := 2) (w0 := 0) (w1 := 2) (as := [vi z54, vi z56]) (rest := []) (by decide +kernel) (q := 256) (nq := 62) (kq := 15) ⟨by decide, rfl⟩ rfl rfl rfl rfl (xe_mono (D_X11_end_256 s50 hG_s50 z54 (by first | exact x_rbe e_z54 g_z54 rfl rfl | exact x_rb g_z54 rfl rfl | exact ⟨by omega, by omega⟩) z56 (by first | exact x_rbe e_z56 g_z56 rfl rfl | exact x_rb g_z56 rfl rfl | exact ⟨by omega, by omega⟩) J_s50) ?_)
        rintro s58 v ⟨hG_s58, t_s58, z57, rfl, g_z57, J_s58⟩
        have q59 : s58 46 3 = x1000 := (t_s58 46 3 (show 452 ∉ [4224, 4288] from by decide +kernel)).trans q51
        have q60 : s58 256 6 = x1001 := (t_s58 256 6 (show 4103 ∉ [4224, 4288] from by decide +kernel)).trans q52
        show xe (some (N, xs)) 231 266 [(0, .ref 2000), (1, .ref 0), (2, .ref 256), (3, vi x3)] [vi z57] s58 295 10442 _
        refine x_A k231_266 (fun _ => rfl) ?_
        refine x_goto k231_267 (t := 1300) rfl ?_
        refine x_iinc k231_1300 (ls' := [(3, vi (x3 + 7)), (0, .ref 2000), (1, .ref 0), (2, .ref 256)]) rfl (by decide) rfl ?_
        refine x_goto k231_1303 (t := 18) rfl ?_
        refine x_ls (l := [(0, .ref 2000), (1, .ref 0), (2, .ref 256), (3, vi (x3 + 7))]) (show ([0, 1, 2, 3] : List Nat).Nodup from by decide +kernel) ⟨rfl, rfl, rfl, rfl, trivial⟩ ?_
        exact ih s58 (x3 + 7) x1000 x1001 hG_s58 trivial ⟨by omega, by omega⟩ (by first | exact x_rb b_x1000 rfl rfl | exact ⟨by omega, by omega⟩) (by first | exact x_rb b_x1001 rfl rfl | exact ⟨by omega, by omega⟩) (by omega) (q59).symm (q60).symm J_s58  (by omega)
      · rw [c5]
        refine x_B k231_33 rfl (fun _ => rfl) (fun _ => rfl) (fun _ _ => rfl) ?_
        show xe (some (N, xs)) 231 270 [(0, .ref 2000), (1, .ref 0), (2, .ref 256), (3, vi x3)] [] s 295 10442 _
        refine x_A k231_270 (fun _ => rfl) ?_
        refine x_A k231_271 (fun _ => rfl) ?_
        refine x_A k231_272 (fun _ => rfl) ?_
        refine x_A k231_273 (fun _ => rfl) ?_
        refine x_iadd k231_274 ?_
        refine x_top (fun z61 e_z61 => ?_)
        refine x_scr k231_275 hN ⟨by omega, by omega⟩ (fun z62 g_z62 e_z62 => ?_)
        unfold in32 at g_z62
        refine x_A k231_276 (fun _ => rfl) ?_
        refine x_A k231_277 (fun _ => rfl) ?_
        refine x_A k231_278 (fun _ => rfl) ?_
        refine x_iadd k231_279 ?_
        refine x_top (fun z63 e_z63 => ?_)
        refine x_scr k231_280 hN ⟨by omega, by omega⟩ (fun z64 g_z64 e_z64 => ?_)
        unfold in32 at g_z64
        refine x_A k231_281 (fun _ => rfl) ?_
        refine x_A k231_282 (fun _ => rfl) ?_
        refine x_A k231_283 (fun _ => rfl) ?_
        refine x_iadd k231_284 ?_
        refine x_top (fun z65 e_z65 => ?_)
        refine x_scr k231_285 hN ⟨by omega, by omega⟩ (fun z66 g_z66 e_z66 => ?_)
        unfold in32 at g_z66
        refine x_callV k231_286 (y := 95) (n := 3) (w0 := 0) (w1 := 3) (as := [vi z62, vi z64, vi z66]) (rest := []) (by decide +kernel) (q := 0) (nq := 12) (kq := 3) ⟨by decide, rfl⟩ rfl rfl rfl rfl (xe_mono (C_X10_tree_0 s hG i_J z62 (by first | exact x_rbe e_z62 g_z62 rfl rfl | exact x_rb g_z62 rfl rfl | exact ⟨by omega, by omega⟩) z64 (by first | exact x_rbe e_z64 g_z64 rfl rfl | exact x_rb g_z64 rfl rfl | exact ⟨by omega, by omega⟩) z66 (by first | exact x_rbe e_z66 g_z66 rfl rfl | exact x_rb g_z66 rfl rfl | exact ⟨by omega, by omega⟩)) ?_)
        rintro s68 v ⟨hG_s68, t_s68, z67, rfl, g_z67⟩
        have q69 : s68 46 3 = x1000 := (t_s68 46 3 (show 452 ∉ [3329, 3334, 3335, 3336, 3392, 3456, 3520, 3584, 3276, 3648, 3712, 3776, 3840, 3904, 3968, 3277, 4032] from by decide +kernel)).trans e_x1000.symm
        have q70 : s68 256 6 = x1001 := (t_s68 256 6 (show 4103 ∉ [3329, 3334, 3335, 3336, 3392, 3456, 3520, 3584, 3276, 3648, 3712, 3776, 3840, 3904, 3968, 3277, 4032] from by decide +kernel)).trans e_x1001.symm
        have J_s68 : J s68 := J.fl i_J t_s68 (by decide +kernel)
        show xe (some (N, xs)) 231 289 [(0, .ref 2000), (1, .ref 0), (2, .ref 256), (3, vi x3)] [vi z67] s68 295 10442 _
        refine x_A k231_289 (fun _ => rfl) ?_
        refine x_A k231_290 (fun _ => rfl) ?_
        refine x_A k231_291 (fun _ => rfl) ?_
        refine x_A k231_292 (fun _ => rfl) ?_
        refine x_A k231_293 (fun _ => rfl) ?_
        refine x_iadd k231_294 ?_
        refine x_top (fun z71 e_z71 => ?_)
        refine x_scr k231_295 hN ⟨by omega, by omega⟩ (fun z72 g_z72 e_z72 => ?_)
        unfold in32 at g_z72
        have q_z72 : z72 = z62 := by rw [e_z72, e_z62, show z71 = z61 by omega]
        refine x_A k231_296 (fun _ => rfl) ?_
        refine x_A k231_297 (fun _ => rfl) ?_
        refine x_A k231_298 (fun _ => rfl) ?_
        refine x_iadd k231_299 ?_
        refine x_top (fun z73 e_z73 => ?_)
        refine x_scr k231_300 hN ⟨by omega, by omega⟩ (fun z74 g_z74 e_z74 => ?_)
        unfold in32 at g_z74
        have q_z74 : z74 = z64 := by rw [e_z74, e_z64, show z73 = z63 by omega]
        refine x_A k231_301 (fun _ => rfl) ?_
        refine x_A k231_302 (fun _ => rfl) ?_
        refine x_A k231_303 (fun _ => rfl) ?_
        refine x_iadd k231_304 ?_
        refine x_top (fun z75 e_z75 => ?_)
        refine x_scr k231_305 hN ⟨by omega, by omega⟩ (fun z76 g_z76 e_z76 => ?_)
        unfold in32 at g_z76
        have q_z76 : z76 = z66 := by rw [e_z76, e_z66, show z75 = z65 by omega]
        refine x_callV k231_306 (y := 149) (n := 3) (w0 := 0) (w1 := 3) (as := [vi z72, vi z74, vi z76]) (rest := []) (by decide +kernel) (q := 256) (nq := 62) (kq := 15) ⟨by decide, rfl⟩ rfl rfl rfl rfl (xe_mono (C_X11_tree_256 s68 hG_s68 J_s68 z72 (by first | exact x_rbe e_z72 g_z72 rfl rfl | exact x_rb g_z72 rfl rfl | exact ⟨by omega, by omega⟩) z74 (by first | exact x_rbe e_z74 g_z74 rfl rfl | exact x_rb g_z74 rfl rfl | exact ⟨by omega, by omega⟩) z76 (by first | exact x_rbe e_z76 g_z76 rfl rfl | exact x_rb g_z76 rfl rfl | exact ⟨by omega, by omega⟩)) ?_)
        rintro s78 v ⟨hG_s78, t_s78, z77, rfl, g_z77⟩
        have q79 : s78 46 3 = x1000 := (t_s78 46 3 (show 452 ∉ [5312, 5376, 4123, 5440, 5504, 5568, 5632, 5696, 5760] from by decide +kernel)).trans q69
        have q80 : s78 256 6 = x1001 := (t_s78 256 6 (show 4103 ∉ [5312, 5376, 4123, 5440, 5504, 5568, 5632, 5696, 5760] from by decide +kernel)).trans q70
        have J_s78 : J s78 := J.fl J_s68 t_s78 (by decide +kernel)
        show xe (some (N, xs)) 231 309 [(0, .ref 2000), (1, .ref 0), (2, .ref 256), (3, vi x3)] [vi z77] s78 295 10442 _
        refine x_A k231_309 (fun _ => rfl) ?_
        refine x_goto k231_310 (t := 1300) rfl ?_
        refine x_iinc k231_1300 (ls' := [(3, vi (x3 + 7)), (0, .ref 2000), (1, .ref 0), (2, .ref 256)]) rfl (by decide) rfl ?_
        refine x_goto k231_1303 (t := 18) rfl ?_
        refine x_ls (l := [(0, .ref 2000), (1, .ref 0), (2, .ref 256), (3, vi (x3 + 7))]) (show ([0, 1, 2, 3] : List Nat).Nodup from by decide +kernel) ⟨rfl, rfl, rfl, rfl, trivial⟩ ?_
        exact ih s78 (x3 + 7) x1000 x1001 hG_s78 trivial ⟨by omega, by omega⟩ (by first | exact x_rb b_x1000 rfl rfl | exact ⟨by omega, by omega⟩) (by first | exact x_rb b_x1001 rfl rfl | exact ⟨by omega, by omega⟩) (by omega) (q79).symm (q80).symm J_s78  (by omega)
      · rw [c5]
        refine x_B k231_33 rfl (fun _ => rfl) (fun _ => rfl) (fun _ _ => rfl) ?_
        show xe (some (N, xs)) 231 313 [(0, .ref 2000), (1, .ref 0), (2, .ref 256), (3, vi x3)] [] s 295 10442 _
        refine x_A k231_313 (fun _ => rfl) ?_
        refine x_A k231_314 (fun _ => rfl) ?_
        refine x_A k231_315 (fun _ => rfl) ?_
        refine x_A k231_316 (fun _ => rfl) ?_
        refine x_iadd k231_317 ?_
        refine x_top (fun z81 e_z81 => ?_)
        refine x_scr k231_318 hN ⟨by omega, by omega⟩ (fun z82 g_z82 e_z82 => ?_)
        unfold in32 at g_z82
        refine x_A k231_319 (fun _ => rfl) ?_
        refine x_A k231_320 (fun _ => rfl) ?_
        refine x_A k231_321 (fun _ => rfl) ?_
        refine x_iadd k231_322 ?_
        refine x_top (fun z83 e_z83 => ?_)
        refine x_scr k231_323 hN ⟨by omega, by omega⟩ (fun z84 g_z84 e_z84 => ?_)
        unfold in32 at g_z84
        refine x_A k231_324 (fun _ => rfl) ?_
        refine x_A k231_325 (fun _ => rfl) ?_
        refine x_A k231_326 (fun _ => rfl) ?_
        refine x_iadd k231_327 ?_
        refine x_top (fun z85 e_z85 => ?_)
        refine x_scr k231_328 hN ⟨by omega, by omega⟩ (fun z86 g_z86 e_z86 => ?_)
        unfold in32 at g_z86
        refine x_callV k231_329 (y := 96) (n := 3) (w0 := 0) (w1 := 3) (as := [vi z82, vi z84, vi z86]) (rest := []) (by decide +kernel) (q := 0) (nq := 12) (kq := 3) ⟨by decide, rfl⟩ rfl rfl rfl rfl (xe_mono (C_X10_below_0 s hG z82 (by first | exact x_rbe e_z82 g_z82 rfl rfl | exact x_rb g_z82 rfl rfl | exact ⟨by omega, by omega⟩) z84 (by first | exact x_rbe e_z84 g_z84 rfl rfl | exact x_rb g_z84 rfl rfl | exact ⟨by omega, by omega⟩) z86 (by first | exact x_rbe e_z86 g_z86 rfl rfl | exact x_rb g_z86 rfl rfl | exact ⟨by omega, by omega⟩)) ?_)
        rintro s88 v ⟨-, t_s88, z87, rfl, g_z87⟩
        rw [t_s88.nil]
        show xe (some (N, xs)) 231 332 [(0, .ref 2000), (1, .ref 0), (2, .ref 256), (3, vi x3)] [vi z87] s 295 10442 _
        refine x_A k231_332 (fun _ => rfl) ?_
        refine x_A k231_333 (fun _ => rfl) ?_
        refine x_A k231_334 (fun _ => rfl) ?_
        refine x_A k231_335 (fun _ => rfl) ?_
        refine x_A k231_336 (fun _ => rfl) ?_
        refine x_iadd k231_337 ?_
        refine x_top (fun z89 e_z89 => ?_)
        refine x_scr k231_338 hN ⟨by omega, by omega⟩ (fun z90 g_z90 e_z90 => ?_)
        unfold in32 at g_z90
        have q_z90 : z90 = z82 := by rw [e_z90, e_z82, show z89 = z81 by omega]
        refine x_A k231_339 (fun _ => rfl) ?_
        refine x_A k231_340 (fun _ => rfl) ?_
        refine x_A k231_341 (fun _ => rfl) ?_
        refine x_iadd k231_342 ?_
        refine x_top (fun z91 e_z91 => ?_)
        refine x_scr k231_343 hN ⟨by omega, by omega⟩ (fun z92 g_z92 e_z92 => ?_)
        unfold in32 at g_z92
        have q_z92 : z92 = z84 := by rw [e_z92, e_z84, show z91 = z83 by omega]
        refine x_A k231_344 (fun _ => rfl) ?_
        refine x_A k231_345 (fun _ => rfl) ?_
        refine x_A k231_346 (fun _ => rfl) ?_
        refine x_iadd k231_347 ?_
        refine x_top (fun z93 e_z93 => ?_)
        refine x_scr k231_348 hN ⟨by omega, by omega⟩ (fun z94 g_z94 e_z94 => ?_)
        unfold in32 at g_z94
        have q_z94 : z94 = z86 := by rw [e_z94, e_z86, show z93 = z85 by omega]
        refine x_callV k231_349 (y := 150) (n := 3) (w0 := 0) (w1 := 3) (as := [vi z90, vi z92, vi z94]) (rest := []) (by decide +kernel) (q := 256) (nq := 62) (kq := 15) ⟨by decide, rfl⟩ rfl rfl rfl rfl (xe_mono (C_X11_below_256 s hG i_J z90 (by first | exact x_rbe e_z90 g_z90 rfl rfl | exact x_rb g_z90 rfl rfl | exact ⟨by omega, by omega⟩) z92 (by first | exact x_rbe e_z92 g_z92 rfl rfl | exact x_rb g_z92 rfl rfl | exact ⟨by omega, by omega⟩) z94 (by first | exact x_rbe e_z94 g_z94 rfl rfl | exact x_rb g_z94 rfl rfl | exact ⟨by omega, by omega⟩)) ?_)
        rintro s96 v ⟨-, t_s96, z95, rfl, g_z95⟩
        rw [t_s96.nil]
        show xe (some (N, xs)) 231 352 [(0, .ref 2000), (1, .ref 0), (2, .ref 256), (3, vi x3)] [vi z95] s 295 10442 _
        refine x_A k231_352 (fun _ => rfl) ?_
        refine x_goto k231_353 (t := 1300) rfl ?_
        refine x_iinc k231_1300 (ls' := [(3, vi (x3 + 7)), (0, .ref 2000), (1, .ref 0), (2, .ref 256)]) rfl (by decide) rfl ?_
        refine x_goto k231_1303 (t := 18) rfl ?_
        refine x_ls (l := [(0, .ref 2000), (1, .ref 0), (2, .ref 256), (3, vi (x3 + 7))]) (show ([0, 1, 2, 3] : List Nat).Nodup from by decide +kernel) ⟨rfl, rfl, rfl, rfl, trivial⟩ ?_
        exact ih s (x3 + 7) x1000 x1001 hG f ⟨by omega, by omega⟩ (by first | exact x_rb b_x1000 rfl rfl | exact ⟨by omega, by omega⟩) (by first | exact x_rb b_x1001 rfl rfl | exact ⟨by omega, by omega⟩) (by omega) (e_x1000.symm).symm (e_x1001.symm).symm i_J  (by omega)
      · rw [c5]
        refine x_B k231_33 rfl (fun _ => rfl) (fun _ => rfl) (fun _ _ => rfl) ?_
        show xe (some (N, xs)) 231 356 [(0, .ref 2000), (1, .ref 0), (2, .ref 256), (3, vi x3)] [] s 295 10442 _
        refine x_A k231_356 (fun _ => rfl) ?_
        refine x_A k231_357 (fun _ => rfl) ?_
        refine x_A k231_358 (fun _ => rfl) ?_
        refine x_A k231_359 (fun _ => rfl) ?_
        refine x_iadd k231_360 ?_
        refine x_top (fun z97 e_z97 => ?_)
        refine x_scr k231_361 hN ⟨by omega, by omega⟩ (fun z98 g_z98 e_z98 => ?_)
        unfold in32 at g_z98
        refine x_A k231_362 (fun _ => rfl) ?_
        refine x_A k231_363 (fun _ => rfl) ?_
        refine x_A k231_364 (fun _ => rfl) ?_
        refine x_iadd k231_365 ?_
        refine x_top (fun z99 e_z99 => ?_)
        refine x_scr k231_366 hN ⟨by omega, by omega⟩ (fun z100 g_z100 e_z100 => ?_)
        unfold in32 at g_z100
        refine x_A k231_367 (fun _ => rfl) ?_
        refine x_A k231_368 (fun _ => rfl) ?_
        refine x_A k231_369 (fun _ => rfl) ?_
        refine x_iadd k231_370 ?_
        refine x_top (fun z101 e_z101 => ?_)
        refine x_scr k231_371 hN ⟨by omega, by omega⟩ (fun z102 g_z102 e_z102 => ?_)
        unfold in32 at g_z102
        refine x_callV k231_372 (y := 97) (n := 3) (w0 := 0) (w1 := 3) (as := [vi z98, vi z100, vi z102]) (rest := []) (by decide +kernel) (q := 0) (nq := 12) (kq := 3) ⟨by decide, rfl⟩ rfl rfl rfl rfl (xe_mono (E_X10_picture_0 s hG z98 (by first | exact x_rbe e_z98 g_z98 rfl rfl | exact x_rb g_z98 rfl rfl | exact ⟨by omega, by omega⟩) z100 (by first | exact x_rbe e_z100 g_z100 rfl rfl | exact x_rb g_z100 rfl rfl | exact ⟨by omega, by omega⟩) z102 (by first | exact x_rbe e_z102 g_z102 rfl rfl | exact x_rb g_z102 rfl rfl | exact ⟨by omega, by omega⟩) ⟨by omega, by omega⟩) ?_)
        rintro s104 v ⟨hG_s104, t_s104, z103, rfl, g_z103, xp_z103⟩
        have q105 : s104 256 6 = x1001 := (t_s104 256 6 (show 4103 ∉ [452, 512, 576, 640] from by decide +kernel)).trans e_x1001.symm
        have J_s104 : J s104 := J.fl i_J t_s104 (by decide +kernel)
        obtain ⟨z106, e_z106⟩ : ∃ z, z = s104 46 3 := ⟨_, rfl⟩
        have g_z106 : (0 : Int) ≤ s104 46 3 ∧ s104 46 3 ≤ 40 := hG_s104 46 3
        show xe (some (N, xs)) 231 375 [(0, .ref 2000), (1, .ref 0), (2, .ref 256), (3, vi x3)] [vi z103] s104 295 10442 _
        refine x_A k231_375 (fun _ => rfl) ?_
        refine x_A k231_376 (fun _ => rfl) ?_
        refine x_A k231_377 (fun _ => rfl) ?_
        refine x_A k231_378 (fun _ => rfl) ?_
        refine x_iadd k231_379 ?_
        refine x_top (fun z107 e_z107 => ?_)
        refine x_scr k231_380 hN ⟨by omega, by omega⟩ (fun z108 g_z108 e_z108 => ?_)
        unfold in32 at g_z108
        have q_z108 : z108 = z98 := by rw [e_z108, e_z98, show z107 = z97 by omega]
        refine x_A k231_381 (fun _ => rfl) ?_
        refine x_A k231_382 (fun _ => rfl) ?_
        refine x_A k231_383 (fun _ => rfl) ?_
        refine x_iadd k231_384 ?_
        refine x_top (fun z109 e_z109 => ?_)
        refine x_scr k231_385 hN ⟨by omega, by omega⟩ (fun z110 g_z110 e_z110 => ?_)
        unfold in32 at g_z110
        have q_z110 : z110 = z100 := by rw [e_z110, e_z100, show z109 = z99 by omega]
        refine x_A k231_386 (fun _ => rfl) ?_
        refine x_A k231_387 (fun _ => rfl) ?_
        refine x_A k231_388 (fun _ => rfl) ?_
        refine x_iadd k231_389 ?_
        refine x_top (fun z111 e_z111 => ?_)
        refine x_scr k231_390 hN ⟨by omega, by omega⟩ (fun z112 g_z112 e_z112 => ?_)
        unfold in32 at g_z112
        have q_z112 : z112 = z102 := by rw [e_z112, e_z102, show z111 = z101 by omega]
        refine x_callV k231_391 (y := 154) (n := 3) (w0 := 1) (w1 := 3) (as := [vi z108, vi z110, vi z112]) (rest := [vi z103]) (by decide +kernel) (q := 256) (nq := 62) (kq := 15) ⟨by decide, rfl⟩ rfl rfl rfl rfl (xe_mono (E_X11_picture_256 s104 hG_s104 z108 (by first | exact x_rbe e_z108 g_z108 rfl rfl | exact x_rb g_z108 rfl rfl | exact ⟨by omega, by omega⟩) z110 (by first | exact x_rbe e_z110 g_z110 rfl rfl | exact x_rb g_z110 rfl rfl | exact ⟨by omega, by omega⟩) z112 (by first | exact x_rbe e_z112 g_z112 rfl rfl | exact x_rb g_z112 rfl rfl | exact ⟨by omega, by omega⟩) ⟨by omega, by omega⟩ J_s104) ?_)
        rintro s114 v ⟨hG_s114, t_s114, z113, rfl, g_z113, xp_z113, J_s114⟩
        have q115 : s114 46 3 = z106 := (t_s114 46 3 (show 452 ∉ [4103, 4416, 4480, 4544] from by decide +kernel)).trans e_z106.symm
        obtain ⟨z116, e_z116⟩ : ∃ z, z = s114 256 6 := ⟨_, rfl⟩
        have g_z116 : (0 : Int) ≤ s114 256 6 ∧ s114 256 6 ≤ 40 := hG_s114 256 6
        show xe (some (N, xs)) 231 394 [(0, .ref 2000), (1, .ref 0), (2, .ref 256), (3, vi x3)] [vi z113, vi z103] s114 295 10442 _
        refine x_ic_eq k231_394 (t := 1300) rfl (by first | exact x_rbe e_z103 g_z103 rfl rfl | exact x_rb g_z103 rfl rfl | exact ⟨by omega, by omega⟩) (by first | exact x_rbe e_z113 g_z113 rfl rfl | exact x_rb g_z113 rfl rfl | exact ⟨by omega, by omega⟩) (fun c117 => ?_) (fun c117 => ?_)
        · skip
          refine x_iinc k231_1300 (ls' := [(3, vi (x3 + 7)), (0, .ref 2000), (1, .ref 0), (2, .ref 256)]) rfl (by decide) rfl ?_
          refine x_goto k231_1303 (t := 18) rfl ?_
          refine x_ls (l := [(0, .ref 2000), (1, .ref 0), (2, .ref 256), (3, vi (x3 + 7))]) (show ([0, 1, 2, 3] : List Nat).Nodup from by decide +kernel) ⟨rfl, rfl, rfl, rfl, trivial⟩ ?_
          exact ih s114 (x3 + 7) z106 z116 hG_s114 trivial ⟨by omega, by omega⟩ (by first | exact x_rbe e_z106 g_z106 rfl rfl | exact x_rb g_z106 rfl rfl | exact ⟨by omega, by omega⟩) (by first | exact x_rbe e_z116 g_z116 rfl rfl | exact x_rb g_z116 rfl rfl | exact ⟨by omega, by omega⟩) (by omega) (q115).symm (e_z116.symm).symm J_s114  (by omega)
        · skip
          refine x_A k231_397 (fun _ => rfl) ?_
          exfalso; omega
      · rw [c5]
        refine x_B k231_33 rfl (fun _ => rfl) (fun _ => rfl) (fun _ _ => rfl) ?_
        show xe (some (N, xs)) 231 399 [(0, .ref 2000), (1, .ref 0), (2, .ref 256), (3, vi x3)] [] s 295 10442 _
        refine x_A k231_399 (fun _ => rfl) ?_
        refine x_A k231_400 (fun _ => rfl) ?_
        refine x_A k231_401 (fun _ => rfl) ?_
        refine x_A k231_402 (fun _ => rfl) ?_
        refine x_iadd k231_403 ?_
        refine x_top (fun z118 e_z118 => ?_)
        refine x_scr k231_404 hN ⟨by omega, by omega⟩ (fun z119 g_z119 e_z119 => ?_)
        unfold in32 at g_z119
        refine x_A k231_405 (fun _ => rfl) ?_
        refine x_A k231_406 (fun _ => rfl) ?_
        refine x_A k231_407 (fun _ => rfl) ?_
        refine x_iadd k231_408 ?_
        refine x_top (fun z120 e_z120 => ?_)
        refine x_scr k231_409 hN ⟨by omega, by omega⟩ (fun z121 g_z121 e_z121 => ?_)
        unfold in32 at g_z121
        refine x_A k231_410 (fun _ => rfl) ?_
        refine x_A k231_411 (fun _ => rfl) ?_
        refine x_A k231_412 (fun _ => rfl) ?_
        refine x_iadd k231_413 ?_
        refine x_top (fun z122 e_z122 => ?_)
        refine x_scr k231_414 hN ⟨by omega, by omega⟩ (fun z123 g_z123 e_z123 => ?_)
        unfold in32 at g_z123
        refine x_A k231_415 (fun _ => rfl) ?_
        refine x_A k231_416 (fun _ => rfl) ?_
        refine x_A k231_417 (fun _ => rfl) ?_
        refine x_iadd k231_418 ?_
        refine x_top (fun z124 e_z124 => ?_)
        refine x_scr k231_419 hN ⟨by omega, by omega⟩ (fun z125 g_z125 e_z125 => ?_)
        unfold in32 at g_z125
        refine x_callV k231_420 (y := 98) (n := 4) (w0 := 0) (w1 := 4) (as := [vi z119, vi z121, vi z123, vi z125]) (rest := []) (by decide +kernel) (q := 0) (nq := 12) (kq := 3) ⟨by decide, rfl⟩ rfl rfl rfl rfl (xe_mono (C_X10_give_0 s hG z119 (by first | exact x_rbe e_z119 g_z119 rfl rfl | exact x_rb g_z119 rfl rfl | exact ⟨by omega, by omega⟩) z121 (by first | exact x_rbe e_z121 g_z121 rfl rfl | exact x_rb g_z121 rfl rfl | exact ⟨by omega, by omega⟩) z123 (by first | exact x_rbe e_z123 g_z123 rfl rfl | exact x_rb g_z123 rfl rfl | exact ⟨by omega, by omega⟩) z125 (by first | exact x_rbe e_z125 g_z125 rfl rfl | exact x_rb g_z125 rfl rfl | exact ⟨by omega, by omega⟩)) ?_)
        rintro s127 v ⟨hG_s127, t_s127, z126, rfl, g_z126⟩
        have q128 : s127 46 3 = x1000 := (t_s127 46 3 (show 452 ∉ [711, 768, 832, 896, 960, 1024, 1152, 3276, 3277] from by decide +kernel)).trans e_x1000.symm
        have q129 : s127 256 6 = x1001 := (t_s127 256 6 (show 4103 ∉ [711, 768, 832, 896, 960, 1024, 1152, 3276, 3277] from by decide +kernel)).trans e_x1001.symm
        have J_s127 : J s127 := J.fl i_J t_s127 (by decide +kernel)
        show xe (some (N, xs)) 231 423 [(0, .ref 2000), (1, .ref 0), (2, .ref 256), (3, vi x3)] [vi z126] s127 295 10442 _
        refine x_A k231_423 (fun _ => rfl) ?_
        refine x_A k231_424 (fun _ => rfl) ?_
        refine x_A k231_425 (fun _ => rfl) ?_
        refine x_A k231_426 (fun _ => rfl) ?_
        refine x_A k231_427 (fun _ => rfl) ?_
        refine x_iadd k231_428 ?_
        refine x_top (fun z130 e_z130 => ?_)
        refine x_scr k231_429 hN ⟨by omega, by omega⟩ (fun z131 g_z131 e_z131 => ?_)
        unfold in32 at g_z131
        have q_z131 : z131 = z119 := by rw [e_z131, e_z119, show z130 = z118 by omega]
        refine x_A k231_430 (fun _ => rfl) ?_
        refine x_A k231_431 (fun _ => rfl) ?_
        refine x_A k231_432 (fun _ => rfl) ?_
        refine x_iadd k231_433 ?_
        refine x_top (fun z132 e_z132 => ?_)
        refine x_scr k231_434 hN ⟨by omega, by omega⟩ (fun z133 g_z133 e_z133 => ?_)
        unfold in32 at g_z133
        have q_z133 : z133 = z121 := by rw [e_z133, e_z121, show z132 = z120 by omega]
        refine x_A k231_435 (fun _ => rfl) ?_
        refine x_A k231_436 (fun _ => rfl) ?_
        refine x_A k231_437 (fun _ => rfl) ?_
        refine x_iadd k231_438 ?_
        refine x_top (fun z134 e_z134 => ?_)
        refine x_scr k231_439 hN ⟨by omega, by omega⟩ (fun z135 g_z135 e_z135 => ?_)
        unfold in32 at g_z135
        have q_z135 : z135 = z123 := by rw [e_z135, e_z123, show z134 = z122 by omega]
        refine x_A k231_440 (fun _ => rfl) ?_
        refine x_A k231_441 (fun _ => rfl) ?_
        refine x_A k231_442 (fun _ => rfl) ?_
        refine x_iadd k231_443 ?_
        refine x_top (fun z136 e_z136 => ?_)
        refine x_scr k231_444 hN ⟨by omega, by omega⟩ (fun z137 g_z137 e_z137 => ?_)
        unfold in32 at g_z137
        have q_z137 : z137 = z125 := by rw [e_z137, e_z125, show z136 = z124 by omega]
        refine x_callV k231_445 (y := 155) (n := 4) (w0 := 0) (w1 := 4) (as := [vi z131, vi z133, vi z135, vi z137]) (rest := []) (by decide +kernel) (q := 256) (nq := 62) (kq := 15) ⟨by decide, rfl⟩ rfl rfl rfl rfl (xe_mono (C_X11_give_256 s127 hG_s127 z131 (by first | exact x_rbe e_z131 g_z131 rfl rfl | exact x_rb g_z131 rfl rfl | exact ⟨by omega, by omega⟩) z133 (by first | exact x_rbe e_z133 g_z133 rfl rfl | exact x_rb g_z133 rfl rfl | exact ⟨by omega, by omega⟩) z135 (by first | exact x_rbe e_z135 g_z135 rfl rfl | exact x_rb g_z135 rfl rfl | exact ⟨by omega, by omega⟩) z137 (by first | exact x_rbe e_z137 g_z137 rfl rfl | exact x_rb g_z137 rfl rfl | exact ⟨by omega, by omega⟩)) ?_)
        rintro s139 v ⟨hG_s139, t_s139, z138, rfl, g_z138⟩
        have q140 : s139 46 3 = x1000 := (t_s139 46 3 (show 452 ∉ [4107, 4608, 4672, 4736, 4800, 4864, 4928] from by decide +kernel)).trans q128
        have q141 : s139 256 6 = x1001 := (t_s139 256 6 (show 4103 ∉ [4107, 4608, 4672, 4736, 4800, 4864, 4928] from by decide +kernel)).trans q129
        have J_s139 : J s139 := J.fl J_s127 t_s139 (by decide +kernel)
        show xe (some (N, xs)) 231 448 [(0, .ref 2000), (1, .ref 0), (2, .ref 256), (3, vi x3)] [vi z138] s139 295 10442 _
        refine x_A k231_448 (fun _ => rfl) ?_
        refine x_goto k231_449 (t := 1300) rfl ?_
        refine x_iinc k231_1300 (ls' := [(3, vi (x3 + 7)), (0, .ref 2000), (1, .ref 0), (2, .ref 256)]) rfl (by decide) rfl ?_
        refine x_goto k231_1303 (t := 18) rfl ?_
        refine x_ls (l := [(0, .ref 2000), (1, .ref 0), (2, .ref 256), (3, vi (x3 + 7))]) (show ([0, 1, 2, 3] : List Nat).Nodup from by decide +kernel) ⟨rfl, rfl, rfl, rfl, trivial⟩ ?_
        exact ih s139 (x3 + 7) x1000 x1001 hG_s139 trivial ⟨by omega, by omega⟩ (by first | exact x_rb b_x1000 rfl rfl | exact ⟨by omega, by omega⟩) (by first | exact x_rb b_x1001 rfl rfl | exact ⟨by omega, by omega⟩) (by omega) (q140).symm (q141).symm J_s139  (by omega)
      · rw [c5]
        refine x_B k231_33 rfl (fun _ => rfl) (fun _ => rfl) (fun _ _ => rfl) ?_
        show xe (some (N, xs)) 231 452 [(0, .ref 2000), (1, .ref 0), (2, .ref 256), (3, vi x3)] [] s 295 10442 _
        refine x_A k231_452 (fun _ => rfl) ?_
        refine x_A k231_453 (fun _ => rfl) ?_
        refine x_A k231_454 (fun _ => rfl) ?_
        refine x_A k231_455 (fun _ => rfl) ?_
        refine x_iadd k231_456 ?_
        refine x_top (fun z142 e_z142 => ?_)
        refine x_scr k231_457 hN ⟨by omega, by omega⟩ (fun z143 g_z143 e_z143 => ?_)
        unfold in32 at g_z143
        refine x_A k231_458 (fun _ => rfl) ?_
        refine x_A k231_459 (fun _ => rfl) ?_
        refine x_A k231_460 (fun _ => rfl) ?_
        refine x_iadd k231_461 ?_
        refine x_top (fun z144 e_z144 => ?_)
        refine x_scr k231_462 hN ⟨by omega, by omega⟩ (fun z145 g_z145 e_z145 => ?_)
        unfold in32 at g_z145
        refine x_callV k231_463 (y := 99) (n := 2) (w0 := 0) (w1 := 2) (as := [vi z143, vi z145]) (rest := []) (by decide +kernel) (q := 0) (nq := 12) (kq := 3) ⟨by decide, rfl⟩ rfl rfl rfl rfl (xe_mono (C_X10_doubt_0 s hG z143 (by first | exact x_rbe e_z143 g_z143 rfl rfl | exact x_rb g_z143 rfl rfl | exact ⟨by omega, by omega⟩) z145 (by first | exact x_rbe e_z145 g_z145 rfl rfl | exact x_rb g_z145 rfl rfl | exact ⟨by omega, by omega⟩)) ?_)
        rintro s147 v ⟨hG_s147, t_s147, z146, rfl, g_z146⟩
        have q148 : s147 46 3 = x1000 := (t_s147 46 3 (show 452 ∉ [1152, 3276, 3277] from by decide +kernel)).trans e_x1000.symm
        have q149 : s147 256 6 = x1001 := (t_s147 256 6 (show 4103 ∉ [1152, 3276, 3277] from by decide +kernel)).trans e_x1001.symm
        have J_s147 : J s147 := J.fl i_J t_s147 (by decide +kernel)
        show xe (some (N, xs)) 231 466 [(0, .ref 2000), (1, .ref 0), (2, .ref 256), (3, vi x3)] [vi z146] s147 295 10442 _
        refine x_A k231_466 (fun _ => rfl) ?_
        refine x_A k231_467 (fun _ => rfl) ?_
        refine x_A k231_468 (fun _ => rfl) ?_
        refine x_A k231_469 (fun _ => rfl) ?_
        refine x_A k231_470 (fun _ => rfl) ?_
        refine x_iadd k231_471 ?_
        refine x_top (fun z150 e_z150 => ?_)
        refine x_scr k231_472 hN ⟨by omega, by omega⟩ (fun z151 g_z151 e_z151 => ?_)
        unfold in32 at g_z151
        have q_z151 : z151 = z143 := by rw [e_z151, e_z143, show z150 = z142 by omega]
        refine x_A k231_473 (fun _ => rfl) ?_
        refine x_A k231_474 (fun _ => rfl) ?_
        refine x_A k231_475 (fun _ => rfl) ?_
        refine x_iadd k231_476 ?_
        refine x_top (fun z152 e_z152 => ?_)
        refine x_scr k231_477 hN ⟨by omega, by omega⟩ (fun z153 g_z153 e_z153 => ?_)
        unfold in32 at g_z153
        have q_z153 : z153 = z145 := by rw [e_z153, e_z145, show z152 = z144 by omega]
        refine x_callV k231_478 (y := 157) (n := 2) (w0 := 0) (w1 := 2) (as := [vi z151, vi z153]) (rest := []) (by decide +kernel) (q := 256) (nq := 62) (kq := 15) ⟨by decide, rfl⟩ rfl rfl rfl rfl (xe_mono (C_X11_doubt_256 s147 hG_s147 z151 (by first | exact x_rbe e_z151 g_z151 rfl rfl | exact x_rb g_z151 rfl rfl | exact ⟨by omega, by omega⟩) z153 (by first | exact x_rbe e_z153 g_z153 rfl rfl | exact x_rb g_z153 rfl rfl | exact ⟨by omega, by omega⟩)) ?_)
        rintro s155 v ⟨hG_s155, t_s155, z154, rfl, g_z154⟩
        have q156 : s155 46 3 = x1000 := (t_s155 46 3 (show 452 ∉ [4928] from by decide +kernel)).trans q148
        have q157 : s155 256 6 = x1001 := (t_s155 256 6 (show 4103 ∉ [4928] from by decide +kernel)).trans q149
        have J_s155 : J s155 := J.fl J_s147 t_s155 (by decide +kernel)
        show xe (some (N, xs)) 231 481 [(0, .ref 2000), (1, .ref 0), (2, .ref 256), (3, vi x3)] [vi z154] s155 295 10442 _
        refine x_A k231_481 (fun _ => rfl) ?_
        refine x_goto k231_482 (t := 1300) rfl ?_
        refine x_iinc k231_1300 (ls' := [(3, vi (x3 + 7)), (0, .ref 2000), (1, .ref 0), (2, .ref 256)]) rfl (by decide) rfl ?_
        refine x_goto k231_1303 (t := 18) rfl ?_
        refine x_ls (l := [(0, .ref 2000), (1, .ref 0), (2, .ref 256), (3, vi (x3 + 7))]) (show ([0, 1, 2, 3] : List Nat).Nodup from by decide +kernel) ⟨rfl, rfl, rfl, rfl, trivial⟩ ?_
        exact ih s155 (x3 + 7) x1000 x1001 hG_s155 trivial ⟨by omega, by omega⟩ (by first | exact x_rb b_x1000 rfl rfl | exact ⟨by omega, by omega⟩) (by first | exact x_rb b_x1001 rfl rfl | exact ⟨by omega, by omega⟩) (by omega) (q156).symm (q157).symm J_s155  (by omega)
      · rw [c5]
        refine x_B k231_33 rfl (fun _ => rfl) (fun _ => rfl) (fun _ _ => rfl) ?_
        show xe (some (N, xs)) 231 485 [(0, .ref 2000), (1, .ref 0), (2, .ref 256), (3, vi x3)] [] s 295 10442 _
        refine x_A k231_485 (fun _ => rfl) ?_
        refine x_A k231_486 (fun _ => rfl) ?_
        refine x_A k231_487 (fun _ => rfl) ?_
        refine x_A k231_488 (fun _ => rfl) ?_
        refine x_iadd k231_489 ?_
        refine x_top (fun z158 e_z158 => ?_)
        refine x_scr k231_490 hN ⟨by omega, by omega⟩ (fun z159 g_z159 e_z159 => ?_)
        unfold in32 at g_z159
        refine x_A k231_491 (fun _ => rfl) ?_
        refine x_A k231_492 (fun _ => rfl) ?_
        refine x_A k231_493 (fun _ => rfl) ?_
        refine x_iadd k231_494 ?_
        refine x_top (fun z160 e_z160 => ?_)
        refine x_scr k231_495 hN ⟨by omega, by omega⟩ (fun z161 g_z161 e_z161 => ?_)
        unfold in32 at g_z161
        refine x_callV k231_496 (y := 100) (n := 2) (w0 := 0) (w1 := 2) (as := [vi z159, vi z161]) (rest := []) (by decide +kernel) (q := 0) (nq := 12) (kq := 3) ⟨by decide, rfl⟩ rfl rfl rfl rfl (xe_mono (C_X10_told_0 s hG i_J z159 (by first | exact x_rbe e_z159 g_z159 rfl rfl | exact x_rb g_z159 rfl rfl | exact ⟨by omega, by omega⟩) z161 (by first | exact x_rbe e_z161 g_z161 rfl rfl | exact x_rb g_z161 rfl rfl | exact ⟨by omega, by omega⟩)) ?_)
        rintro s163 v ⟨hG_s163, t_s163, z162, rfl, g_z162⟩
        have q164 : s163 46 3 = x1000 := (t_s163 46 3 (show 452 ∉ [3329, 3334, 3335, 3336, 3392, 3456, 3520, 3584, 3276, 3648, 3712, 3776, 3840, 3904, 3968, 3277, 4032] from by decide +kernel)).trans e_x1000.symm
        have q165 : s163 256 6 = x1001 := (t_s163 256 6 (show 4103 ∉ [3329, 3334, 3335, 3336, 3392, 3456, 3520, 3584, 3276, 3648, 3712, 3776, 3840, 3904, 3968, 3277, 4032] from by decide +kernel)).trans e_x1001.symm
        have J_s163 : J s163 := J.fl i_J t_s163 (by decide +kernel)
        show xe (some (N, xs)) 231 499 [(0, .ref 2000), (1, .ref 0), (2, .ref 256), (3, vi x3)] [vi z162] s163 295 10442 _
        refine x_A k231_499 (fun _ => rfl) ?_
        refine x_A k231_500 (fun _ => rfl) ?_
        refine x_A k231_501 (fun _ => rfl) ?_
        refine x_A k231_502 (fun _ => rfl) ?_
        refine x_A k231_503 (fun _ => rfl) ?_
        refine x_iadd k231_504 ?_
        refine x_top (fun z166 e_z166 => ?_)
        refine x_scr k231_505 hN ⟨by omega, by omega⟩ (fun z167 g_z167 e_z167 => ?_)
        unfold in32 at g_z167
        have q_z167 : z167 = z159 := by rw [e_z167, e_z159, show z166 = z158 by omega]
        refine x_A k231_506 (fun _ => rfl) ?_
        refine x_A k231_507 (fun _ => rfl) ?_
        refine x_A k231_508 (fun _ => rfl) ?_
        refine x_iadd k231_509 ?_
        refine x_top (fun z168 e_z168 => ?_)
        refine x_scr k231_510 hN ⟨by omega, by omega⟩ (fun z169 g_z169 e_z169 => ?_)
        unfold in32 at g_z169
        have q_z169 : z169 = z161 := by rw [e_z169, e_z161, show z168 = z160 by omega]
        refine x_callV k231_511 (y := 158) (n := 2) (w0 := 0) (w1 := 2) (as := [vi z167, vi z169]) (rest := []) (by decide +kernel) (q := 256) (nq := 62) (kq := 15) ⟨by decide, rfl⟩ rfl rfl rfl rfl (xe_mono (C_X11_told_256 s163 hG_s163 J_s163 z167 (by first | exact x_rbe e_z167 g_z167 rfl rfl | exact x_rb g_z167 rfl rfl | exact ⟨by omega, by omega⟩) z169 (by first | exact x_rbe e_z169 g_z169 rfl rfl | exact x_rb g_z169 rfl rfl | exact ⟨by omega, by omega⟩)) ?_)
        rintro s171 v ⟨hG_s171, t_s171, z170, rfl, g_z170⟩
        have q172 : s171 46 3 = x1000 := (t_s171 46 3 (show 452 ∉ [5312, 5376, 4123, 5440, 5504, 5568] from by decide +kernel)).trans q164
        have q173 : s171 256 6 = x1001 := (t_s171 256 6 (show 4103 ∉ [5312, 5376, 4123, 5440, 5504, 5568] from by decide +kernel)).trans q165
        have J_s171 : J s171 := J.fl J_s163 t_s171 (by decide +kernel)
        show xe (some (N, xs)) 231 514 [(0, .ref 2000), (1, .ref 0), (2, .ref 256), (3, vi x3)] [vi z170] s171 295 10442 _
        refine x_A k231_514 (fun _ => rfl) ?_
        refine x_goto k231_515 (t := 1300) rfl ?_
        refine x_iinc k231_1300 (ls' := [(3, vi (x3 + 7)), (0, .ref 2000), (1, .ref 0), (2, .ref 256)]) rfl (by decide) rfl ?_
        refine x_goto k231_1303 (t := 18) rfl ?_
        refine x_ls (l := [(0, .ref 2000), (1, .ref 0), (2, .ref 256), (3, vi (x3 + 7))]) (show ([0, 1, 2, 3] : List Nat).Nodup from by decide +kernel) ⟨rfl, rfl, rfl, rfl, trivial⟩ ?_
        exact ih s171 (x3 + 7) x1000 x1001 hG_s171 trivial ⟨by omega, by omega⟩ (by first | exact x_rb b_x1000 rfl rfl | exact ⟨by omega, by omega⟩) (by first | exact x_rb b_x1001 rfl rfl | exact ⟨by omega, by omega⟩) (by omega) (q172).symm (q173).symm J_s171  (by omega)
      · rw [c5]
        refine x_B k231_33 rfl (fun _ => rfl) (fun _ => rfl) (fun _ _ => rfl) ?_
        show xe (some (N, xs)) 231 518 [(0, .ref 2000), (1, .ref 0), (2, .ref 256), (3, vi x3)] [] s 295 10442 _
        refine x_A k231_518 (fun _ => rfl) ?_
        refine x_A k231_519 (fun _ => rfl) ?_
        refine x_A k231_520 (fun _ => rfl) ?_
        refine x_A k231_521 (fun _ => rfl) ?_
        refine x_iadd k231_522 ?_
        refine x_top (fun z174 e_z174 => ?_)
        refine x_scr k231_523 hN ⟨by omega, by omega⟩ (fun z175 g_z175 e_z175 => ?_)
        unfold in32 at g_z175
        refine x_A k231_524 (fun _ => rfl) ?_
        refine x_A k231_525 (fun _ => rfl) ?_
        refine x_A k231_526 (fun _ => rfl) ?_
        refine x_iadd k231_527 ?_
        refine x_top (fun z176 e_z176 => ?_)
        refine x_scr k231_528 hN ⟨by omega, by omega⟩ (fun z177 g_z177 e_z177 => ?_)
        unfold in32 at g_z177
        refine x_A k231_529 (fun _ => rfl) ?_
        refine x_A k231_530 (fun _ => rfl) ?_
        refine x_A k231_531 (fun _ => rfl) ?_
        refine x_iadd k231_532 ?_
        refine x_top (fun z178 e_z178 => ?_)
        refine x_scr k231_533 hN ⟨by omega, by omega⟩ (fun z179 g_z179 e_z179 => ?_)
        unfold in32 at g_z179
        refine x_callV k231_534 (y := 101) (n := 3) (w0 := 0) (w1 := 3) (as := [vi z175, vi z177, vi z179]) (rest := []) (by decide +kernel) (q := 0) (nq := 12) (kq := 3) ⟨by decide, rfl⟩ rfl rfl rfl rfl (xe_mono (C_X10_means_0 s hG i_J z175 (by first | exact x_rbe e_z175 g_z175 rfl rfl | exact x_rb g_z175 rfl rfl | exact ⟨by omega, by omega⟩) z177 (by first | exact x_rbe e_z177 g_z177 rfl rfl | exact x_rb g_z177 rfl rfl | exact ⟨by omega, by omega⟩) z179 (by first | exact x_rbe e_z179 g_z179 rfl rfl | exact x_rb g_z179 rfl rfl | exact ⟨by omega, by omega⟩)) ?_)
        rintro s181 v ⟨hG_s181, t_s181, z180, rfl, g_z180⟩
        have q182 : s181 46 3 = x1000 := (t_s181 46 3 (show 452 ∉ [3329, 3334, 3335, 3336, 3392, 3456, 3520, 3584, 3276, 3648, 3712, 3776, 3840, 3904, 3968, 3277, 4032, 1921, 1926, 1927, 1928, 1984, 2048, 2112, 2176] from by decide +kernel)).trans e_x1000.symm
        have q183 : s181 256 6 = x1001 := (t_s181 256 6 (show 4103 ∉ [3329, 3334, 3335, 3336, 3392, 3456, 3520, 3584, 3276, 3648, 3712, 3776, 3840, 3904, 3968, 3277, 4032, 1921, 1926, 1927, 1928, 1984, 2048, 2112, 2176] from by decide +kernel)).trans e_x1001.symm
        have J_s181 : J s181 := J.fl i_J t_s181 (by decide +kernel)
        show xe (some (N, xs)) 231 537 [(0, .ref 2000), (1, .ref 0), (2, .ref 256), (3, vi x3)] [vi z180] s181 295 10442 _
        refine x_A k231_537 (fun _ => rfl) ?_
        refine x_A k231_538 (fun _ => rfl) ?_
        refine x_A k231_539 (fun _ => rfl) ?_
        refine x_A k231_540 (fun _ => rfl) ?_
        refine x_A k231_541 (fun _ => rfl) ?_
        refine x_iadd k231_542 ?_
        refine x_top (fun z184 e_z184 => ?_)
        refine x_scr k231_543 hN ⟨by omega, by omega⟩ (fun z185 g_z185 e_z185 => ?_)
        unfold in32 at g_z185
        have q_z185 : z185 = z175 := by rw [e_z185, e_z175, show z184 = z174 by omega]
        refine x_A k231_544 (fun _ => rfl) ?_
        refine x_A k231_545 (fun _ => rfl) ?_
        refine x_A k231_546 (fun _ => rfl) ?_
        refine x_iadd k231_547 ?_
        refine x_top (fun z186 e_z186 => ?_)
        refine x_scr k231_548 hN ⟨by omega, by omega⟩ (fun z187 g_z187 e_z187 => ?_)
        unfold in32 at g_z187
        have q_z187 : z187 = z177 := by rw [e_z187, e_z177, show z186 = z176 by omega]
        refine x_A k231_549 (fun _ => rfl) ?_
        refine x_A k231_550 (fun _ => rfl) ?_
        refine x_A k231_551 (fun _ => rfl) ?_
        refine x_iadd k231_552 ?_
        refine x_top (fun z188 e_z188 => ?_)
        refine x_scr k231_553 hN ⟨by omega, by omega⟩ (fun z189 g_z189 e_z189 => ?_)
        unfold in32 at g_z189
        have q_z189 : z189 = z179 := by rw [e_z189, e_z179, show z188 = z178 by omega]
        refine x_callV k231_554 (y := 172) (n := 3) (w0 := 0) (w1 := 3) (as := [vi z185, vi z187, vi z189]) (rest := []) (by decide +kernel) (q := 256) (nq := 62) (kq := 15) ⟨by decide, rfl⟩ rfl rfl rfl rfl (xe_mono (C_X11_means_256 s181 hG_s181 J_s181 z185 (by first | exact x_rbe e_z185 g_z185 rfl rfl | exact x_rb g_z185 rfl rfl | exact ⟨by omega, by omega⟩) z187 (by first | exact x_rbe e_z187 g_z187 rfl rfl | exact x_rb g_z187 rfl rfl | exact ⟨by omega, by omega⟩) z189 (by first | exact x_rbe e_z189 g_z189 rfl rfl | exact x_rb g_z189 rfl rfl | exact ⟨by omega, by omega⟩)) ?_)
        rintro s191 v ⟨hG_s191, t_s191, z190, rfl, g_z190⟩
        have q192 : s191 46 3 = x1000 := (t_s191 46 3 (show 452 ∉ [5312, 5376, 4123, 5440, 5504, 5568, 5632, 5696, 5760] from by decide +kernel)).trans q182
        have q193 : s191 256 6 = x1001 := (t_s191 256 6 (show 4103 ∉ [5312, 5376, 4123, 5440, 5504, 5568, 5632, 5696, 5760] from by decide +kernel)).trans q183
        have J_s191 : J s191 := J.fl J_s181 t_s191 (by decide +kernel)
        show xe (some (N, xs)) 231 557 [(0, .ref 2000), (1, .ref 0), (2, .ref 256), (3, vi x3)] [vi z190] s191 295 10442 _
        refine x_A k231_557 (fun _ => rfl) ?_
        refine x_goto k231_558 (t := 1300) rfl ?_
        refine x_iinc k231_1300 (ls' := [(3, vi (x3 + 7)), (0, .ref 2000), (1, .ref 0), (2, .ref 256)]) rfl (by decide) rfl ?_
        refine x_goto k231_1303 (t := 18) rfl ?_
        refine x_ls (l := [(0, .ref 2000), (1, .ref 0), (2, .ref 256), (3, vi (x3 + 7))]) (show ([0, 1, 2, 3] : List Nat).Nodup from by decide +kernel) ⟨rfl, rfl, rfl, rfl, trivial⟩ ?_
        exact ih s191 (x3 + 7) x1000 x1001 hG_s191 trivial ⟨by omega, by omega⟩ (by first | exact x_rb b_x1000 rfl rfl | exact ⟨by omega, by omega⟩) (by first | exact x_rb b_x1001 rfl rfl | exact ⟨by omega, by omega⟩) (by omega) (q192).symm (q193).symm J_s191  (by omega)
      · rw [c5]
        refine x_B k231_33 rfl (fun _ => rfl) (fun _ => rfl) (fun _ _ => rfl) ?_
        show xe (some (N, xs)) 231 561 [(0, .ref 2000), (1, .ref 0), (2, .ref 256), (3, vi x3)] [] s 295 10442 _
        refine x_A k231_561 (fun _ => rfl) ?_
        refine x_A k231_562 (fun _ => rfl) ?_
        refine x_A k231_563 (fun _ => rfl) ?_
        refine x_A k231_564 (fun _ => rfl) ?_
        refine x_iadd k231_565 ?_
        refine x_top (fun z194 e_z194 => ?_)
        refine x_scr k231_566 hN ⟨by omega, by omega⟩ (fun z195 g_z195 e_z195 => ?_)
        unfold in32 at g_z195
        refine x_A k231_567 (fun _ => rfl) ?_
        refine x_A k231_568 (fun _ => rfl) ?_
        refine x_A k231_569 (fun _ => rfl) ?_
        refine x_iadd k231_570 ?_
        refine x_top (fun z196 e_z196 => ?_)
        refine x_scr k231_571 hN ⟨by omega, by omega⟩ (fun z197 g_z197 e_z197 => ?_)
        unfold in32 at g_z197
        refine x_A k231_572 (fun _ => rfl) ?_
        refine x_A k231_573 (fun _ => rfl) ?_
        refine x_A k231_574 (fun _ => rfl) ?_
        refine x_iadd k231_575 ?_
        refine x_top (fun z198 e_z198 => ?_)
        refine x_scr k231_576 hN ⟨by omega, by omega⟩ (fun z199 g_z199 e_z199 => ?_)
        unfold in32 at g_z199
        refine x_callV k231_577 (y := 102) (n := 3) (w0 := 0) (w1 := 3) (as := [vi z195, vi z197, vi z199]) (rest := []) (by decide +kernel) (q := 0) (nq := 12) (kq := 3) ⟨by decide, rfl⟩ rfl rfl rfl rfl (xe_mono (C_X10_led_0 s hG i_J z195 (by first | exact x_rbe e_z195 g_z195 rfl rfl | exact x_rb g_z195 rfl rfl | exact ⟨by omega, by omega⟩) z197 (by first | exact x_rbe e_z197 g_z197 rfl rfl | exact x_rb g_z197 rfl rfl | exact ⟨by omega, by omega⟩) z199 (by first | exact x_rbe e_z199 g_z199 rfl rfl | exact x_rb g_z199 rfl rfl | exact ⟨by omega, by omega⟩)) ?_)
        rintro s201 v ⟨hG_s201, t_s201, z200, rfl, g_z200⟩
        have q202 : s201 46 3 = x1000 := (t_s201 46 3 (show 452 ∉ [3329, 3334, 3335, 3336, 3392, 3456, 3520, 3584, 3276, 3648, 3712, 3776, 3840, 3904, 3968, 3277, 4032] from by decide +kernel)).trans e_x1000.symm
        have q203 : s201 256 6 = x1001 := (t_s201 256 6 (show 4103 ∉ [3329, 3334, 3335, 3336, 3392, 3456, 3520, 3584, 3276, 3648, 3712, 3776, 3840, 3904, 3968, 3277, 4032] from by decide +kernel)).trans e_x1001.symm
        have J_s201 : J s201 := J.fl i_J t_s201 (by decide +kernel)
        show xe (some (N, xs)) 231 580 [(0, .ref 2000), (1, .ref 0), (2, .ref 256), (3, vi x3)] [vi z200] s201 295 10442 _
        refine x_A k231_580 (fun _ => rfl) ?_
        refine x_A k231_581 (fun _ => rfl) ?_
        refine x_A k231_582 (fun _ => rfl) ?_
        refine x_A k231_583 (fun _ => rfl) ?_
        refine x_A k231_584 (fun _ => rfl) ?_
        refine x_iadd k231_585 ?_
        refine x_top (fun z204 e_z204 => ?_)
        refine x_scr k231_586 hN ⟨by omega, by omega⟩ (fun z205 g_z205 e_z205 => ?_)
        unfold in32 at g_z205
        have q_z205 : z205 = z195 := by rw [e_z205, e_z195, show z204 = z194 by omega]
        refine x_A k231_587 (fun _ => rfl) ?_
        refine x_A k231_588 (fun _ => rfl) ?_
        refine x_A k231_589 (fun _ => rfl) ?_
        refine x_iadd k231_590 ?_
        refine x_top (fun z206 e_z206 => ?_)
        refine x_scr k231_591 hN ⟨by omega, by omega⟩ (fun z207 g_z207 e_z207 => ?_)
        unfold in32 at g_z207
        have q_z207 : z207 = z197 := by rw [e_z207, e_z197, show z206 = z196 by omega]
        refine x_A k231_592 (fun _ => rfl) ?_
        refine x_A k231_593 (fun _ => rfl) ?_
        refine x_A k231_594 (fun _ => rfl) ?_
        refine x_iadd k231_595 ?_
        refine x_top (fun z208 e_z208 => ?_)
        refine x_scr k231_596 hN ⟨by omega, by omega⟩ (fun z209 g_z209 e_z209 => ?_)
        unfold in32 at g_z209
        have q_z209 : z209 = z199 := by rw [e_z209, e_z199, show z208 = z198 by omega]
        refine x_callV k231_597 (y := 173) (n := 3) (w0 := 0) (w1 := 3) (as := [vi z205, vi z207, vi z209]) (rest := []) (by decide +kernel) (q := 256) (nq := 62) (kq := 15) ⟨by decide, rfl⟩ rfl rfl rfl rfl (xe_mono (C_X11_led_256 s201 hG_s201 J_s201 z205 (by first | exact x_rbe e_z205 g_z205 rfl rfl | exact x_rb g_z205 rfl rfl | exact ⟨by omega, by omega⟩) z207 (by first | exact x_rbe e_z207 g_z207 rfl rfl | exact x_rb g_z207 rfl rfl | exact ⟨by omega, by omega⟩) z209 (by first | exact x_rbe e_z209 g_z209 rfl rfl | exact x_rb g_z209 rfl rfl | exact ⟨by omega, by omega⟩)) ?_)
        rintro s211 v ⟨hG_s211, t_s211, z210, rfl, g_z210⟩
        have q212 : s211 46 3 = x1000 := (t_s211 46 3 (show 452 ∉ [5312, 5376, 4123, 5440, 5504, 5568, 5632, 5696, 5760] from by decide +kernel)).trans q202
        have q213 : s211 256 6 = x1001 := (t_s211 256 6 (show 4103 ∉ [5312, 5376, 4123, 5440, 5504, 5568, 5632, 5696, 5760] from by decide +kernel)).trans q203
        have J_s211 : J s211 := J.fl J_s201 t_s211 (by decide +kernel)
        show xe (some (N, xs)) 231 600 [(0, .ref 2000), (1, .ref 0), (2, .ref 256), (3, vi x3)] [vi z210] s211 295 10442 _
        refine x_A k231_600 (fun _ => rfl) ?_
        refine x_goto k231_601 (t := 1300) rfl ?_
        refine x_iinc k231_1300 (ls' := [(3, vi (x3 + 7)), (0, .ref 2000), (1, .ref 0), (2, .ref 256)]) rfl (by decide) rfl ?_
        refine x_goto k231_1303 (t := 18) rfl ?_
        refine x_ls (l := [(0, .ref 2000), (1, .ref 0), (2, .ref 256), (3, vi (x3 + 7))]) (show ([0, 1, 2, 3] : List Nat).Nodup from by decide +kernel) ⟨rfl, rfl, rfl, rfl, trivial⟩ ?_
        exact ih s211 (x3 + 7) x1000 x1001 hG_s211 trivial ⟨by omega, by omega⟩ (by first | exact x_rb b_x1000 rfl rfl | exact ⟨by omega, by omega⟩) (by first | exact x_rb b_x1001 rfl rfl | exact ⟨by omega, by omega⟩) (by omega) (q212).symm (q213).symm J_s211  (by omega)
      · rw [c5]
        refine x_B k231_33 rfl (fun _ => rfl) (fun _ => rfl) (fun _ _ => rfl) ?_
        show xe (some (N, xs)) 231 604 [(0, .ref 2000), (1, .ref 0), (2, .ref 256), (3, vi x3)] [] s 295 10442 _
        refine x_A k231_604 (fun _ => rfl) ?_
        refine x_A k231_605 (fun _ => rfl) ?_
        refine x_A k231_606 (fun _ => rfl) ?_
        refine x_A k231_607 (fun _ => rfl) ?_
        refine x_iadd k231_608 ?_
        refine x_top (fun z214 e_z214 => ?_)
        refine x_scr k231_609 hN ⟨by omega, by omega⟩ (fun z215 g_z215 e_z215 => ?_)
        unfold in32 at g_z215
        refine x_callV k231_610 (y := 103) (n := 1) (w0 := 0) (w1 := 1) (as := [vi z215]) (rest := []) (by decide +kernel) (q := 0) (nq := 12) (kq := 3) ⟨by decide, rfl⟩ rfl rfl rfl rfl (xe_mono (C_X10_count_0 s hG i_J z215 (by first | exact x_rbe e_z215 g_z215 rfl rfl | exact x_rb g_z215 rfl rfl | exact ⟨by omega, by omega⟩)) ?_)
        rintro s217 v ⟨hG_s217, t_s217, z216, rfl, g_z216⟩
        have q218 : s217 46 3 = x1000 := (t_s217 46 3 (show 452 ∉ [3329, 3334, 3335, 3336, 3392, 3456, 3520, 3584, 3276, 3648, 3712, 3776, 3840, 3904, 3968, 3277, 4032, 1921, 1926, 1927, 1928, 1984, 2048, 2112, 2176] from by decide +kernel)).trans e_x1000.symm
        have q219 : s217 256 6 = x1001 := (t_s217 256 6 (show 4103 ∉ [3329, 3334, 3335, 3336, 3392, 3456, 3520, 3584, 3276, 3648, 3712, 3776, 3840, 3904, 3968, 3277, 4032, 1921, 1926, 1927, 1928, 1984, 2048, 2112, 2176] from by decide +kernel)).trans e_x1001.symm
        have J_s217 : J s217 := J.fl i_J t_s217 (by decide +kernel)
        show xe (some (N, xs)) 231 613 [(0, .ref 2000), (1, .ref 0), (2, .ref 256), (3, vi x3)] [vi z216] s217 295 10442 _
        refine x_A k231_613 (fun _ => rfl) ?_
        refine x_A k231_614 (fun _ => rfl) ?_
        refine x_A k231_615 (fun _ => rfl) ?_
        refine x_A k231_616 (fun _ => rfl) ?_
        refine x_A k231_617 (fun _ => rfl) ?_
        refine x_iadd k231_618 ?_
        refine x_top (fun z220 e_z220 => ?_)
        refine x_scr k231_619 hN ⟨by omega, by omega⟩ (fun z221 g_z221 e_z221 => ?_)
        unfold in32 at g_z221
        have q_z221 : z221 = z215 := by rw [e_z221, e_z215, show z220 = z214 by omega]
        refine x_callV k231_620 (y := 174) (n := 1) (w0 := 0) (w1 := 1) (as := [vi z221]) (rest := []) (by decide +kernel) (q := 256) (nq := 62) (kq := 15) ⟨by decide, rfl⟩ rfl rfl rfl rfl (xe_mono (C_X11_count_256 s217 hG_s217 J_s217 z221 (by first | exact x_rbe e_z221 g_z221 rfl rfl | exact x_rb g_z221 rfl rfl | exact ⟨by omega, by omega⟩)) ?_)
        rintro s223 v ⟨hG_s223, t_s223, z222, rfl, g_z222⟩
        have q224 : s223 46 3 = x1000 := (t_s223 46 3 (show 452 ∉ [5312, 5376, 4123, 5440, 5504, 5568, 5632, 5696, 5760] from by decide +kernel)).trans q218
        have q225 : s223 256 6 = x1001 := (t_s223 256 6 (show 4103 ∉ [5312, 5376, 4123, 5440, 5504, 5568, 5632, 5696, 5760] from by decide +kernel)).trans q219
        have J_s223 : J s223 := J.fl J_s217 t_s223 (by decide +kernel)
        show xe (some (N, xs)) 231 623 [(0, .ref 2000), (1, .ref 0), (2, .ref 256), (3, vi x3)] [vi z222] s223 295 10442 _
        refine x_A k231_623 (fun _ => rfl) ?_
        refine x_goto k231_624 (t := 1300) rfl ?_
        refine x_iinc k231_1300 (ls' := [(3, vi (x3 + 7)), (0, .ref 2000), (1, .ref 0), (2, .ref 256)]) rfl (by decide) rfl ?_
        refine x_goto k231_1303 (t := 18) rfl ?_
        refine x_ls (l := [(0, .ref 2000), (1, .ref 0), (2, .ref 256), (3, vi (x3 + 7))]) (show ([0, 1, 2, 3] : List Nat).Nodup from by decide +kernel) ⟨rfl, rfl, rfl, rfl, trivial⟩ ?_
        exact ih s223 (x3 + 7) x1000 x1001 hG_s223 trivial ⟨by omega, by omega⟩ (by first | exact x_rb b_x1000 rfl rfl | exact ⟨by omega, by omega⟩) (by first | exact x_rb b_x1001 rfl rfl | exact ⟨by omega, by omega⟩) (by omega) (q224).symm (q225).symm J_s223  (by omega)
      · rw [c5]
        refine x_B k231_33 rfl (fun _ => rfl) (fun _ => rfl) (fun _ _ => rfl) ?_
        show xe (some (N, xs)) 231 627 [(0, .ref 2000), (1, .ref 0), (2, .ref 256), (3, vi x3)] [] s 295 10442 _
        refine x_A k231_627 (fun _ => rfl) ?_
        refine x_A k231_628 (fun _ => rfl) ?_
        refine x_A k231_629 (fun _ => rfl) ?_
        refine x_A k231_630 (fun _ => rfl) ?_
        refine x_iadd k231_631 ?_
        refine x_top (fun z226 e_z226 => ?_)
        refine x_scr k231_632 hN ⟨by omega, by omega⟩ (fun z227 g_z227 e_z227 => ?_)
        unfold in32 at g_z227
        refine x_A k231_633 (fun _ => rfl) ?_
        refine x_A k231_634 (fun _ => rfl) ?_
        refine x_A k231_635 (fun _ => rfl) ?_
        refine x_iadd k231_636 ?_
        refine x_top (fun z228 e_z228 => ?_)
        refine x_scr k231_637 hN ⟨by omega, by omega⟩ (fun z229 g_z229 e_z229 => ?_)
        unfold in32 at g_z229
        refine x_i2l k231_638 (by first | exact x_rbe e_z229 g_z229 rfl rfl | exact x_rb g_z229 rfl rfl | exact ⟨by omega, by omega⟩) ?_
        refine x_bipush k231_639 (by decide +kernel) ?_
        refine x_lshl_any k231_641 (fun z230 b_z230 => ?_)
        refine x_A k231_642 (fun _ => rfl) ?_
        refine x_A k231_643 (fun _ => rfl) ?_
        refine x_A k231_644 (fun _ => rfl) ?_
        refine x_iadd k231_645 ?_
        refine x_top (fun z231 e_z231 => ?_)
        refine x_scr k231_646 hN ⟨by omega, by omega⟩ (fun z232 g_z232 e_z232 => ?_)
        unfold in32 at g_z232
        refine x_i2l k231_647 (by first | exact x_rbe e_z232 g_z232 rfl rfl | exact x_rb g_z232 rfl rfl | exact ⟨by omega, by omega⟩) ?_
        refine x_ldc2 k231_648 (z := 4294967295) rfl (by decide +kernel) ?_
        refine x_land_mask k231_651 ⟨by omega, by omega⟩ (fun z233 g_z233 => ?_)
        refine x_lor_any k231_652 (fun z234 b_z234 => ?_)
        refine x_callV k231_653 (y := 104) (n := 2) (w0 := 0) (w1 := 3) (as := [vi z227, vj z234]) (rest := []) (by decide +kernel) (q := 0) (nq := 12) (kq := 3) ⟨by decide, rfl⟩ rfl rfl rfl rfl (xe_mono (C_X10_feed_0 s hG z227 (by first | exact x_rbe e_z227 g_z227 rfl rfl | exact x_rb g_z227 rfl rfl | exact ⟨by omega, by omega⟩) z234 b_z234) ?_)
        rintro s236 v ⟨hG_s236, t_s236, z235, rfl, g_z235⟩
        have q237 : s236 46 3 = x1000 := (t_s236 46 3 (show 452 ∉ [1218, 1280] from by decide +kernel)).trans e_x1000.symm
        have q238 : s236 256 6 = x1001 := (t_s236 256 6 (show 4103 ∉ [1218, 1280] from by decide +kernel)).trans e_x1001.symm
        have J_s236 : J s236 := J.fl i_J t_s236 (by decide +kernel)
        show xe (some (N, xs)) 231 656 [(0, .ref 2000), (1, .ref 0), (2, .ref 256), (3, vi x3)] [vi z235] s236 295 10442 _
        refine x_A k231_656 (fun _ => rfl) ?_
        refine x_A k231_657 (fun _ => rfl) ?_
        refine x_A k231_658 (fun _ => rfl) ?_
        refine x_A k231_659 (fun _ => rfl) ?_
        refine x_A k231_660 (fun _ => rfl) ?_
        refine x_iadd k231_661 ?_
        refine x_top (fun z239 e_z239 => ?_)
        refine x_scr k231_662 hN ⟨by omega, by omega⟩ (fun z240 g_z240 e_z240 => ?_)
        unfold in32 at g_z240
        have q_z240 : z240 = z227 := by rw [e_z240, e_z227, show z239 = z226 by omega]
        refine x_A k231_663 (fun _ => rfl) ?_
        refine x_A k231_664 (fun _ => rfl) ?_
        refine x_A k231_665 (fun _ => rfl) ?_
        refine x_iadd k231_666 ?_
        refine x_top (fun z241 e_z241 => ?_)
        refine x_scr k231_667 hN ⟨by omega, by omega⟩ (fun z242 g_z242 e_z242 => ?_)
        unfold in32 at g_z242
        have q_z242 : z242 = z229 := by rw [e_z242, e_z229, show z241 = z228 by omega]
        refine x_i2l k231_668 (by first | exact x_rbe e_z242 g_z242 rfl rfl | exact x_rb g_z242 rfl rfl | exact ⟨by omega, by omega⟩) ?_
        refine x_bipush k231_669 (by decide +kernel) ?_
        refine x_lshl_any k231_671 (fun z243 b_z243 => ?_)
        refine x_A k231_672 (fun _ => rfl) ?_
        refine x_A k231_673 (fun _ => rfl) ?_
        refine x_A k231_674 (fun _ => rfl) ?_
        refine x_iadd k231_675 ?_
        refine x_top (fun z244 e_z244 => ?_)
        refine x_scr k231_676 hN ⟨by omega, by omega⟩ (fun z245 g_z245 e_z245 => ?_)
        unfold in32 at g_z245
        have q_z245 : z245 = z232 := by rw [e_z245, e_z232, show z244 = z231 by omega]
        refine x_i2l k231_677 (by first | exact x_rbe e_z245 g_z245 rfl rfl | exact x_rb g_z245 rfl rfl | exact ⟨by omega, by omega⟩) ?_
        refine x_ldc2 k231_678 (z := 4294967295) rfl (by decide +kernel) ?_
        refine x_land_mask k231_681 ⟨by omega, by omega⟩ (fun z246 g_z246 => ?_)
        refine x_lor_any k231_682 (fun z247 b_z247 => ?_)
        refine x_callV k231_683 (y := 175) (n := 2) (w0 := 0) (w1 := 3) (as := [vi z240, vj z247]) (rest := []) (by decide +kernel) (q := 256) (nq := 62) (kq := 15) ⟨by decide, rfl⟩ rfl rfl rfl rfl (xe_mono (C_X11_feed_256 s236 hG_s236 z240 (by first | exact x_rbe e_z240 g_z240 rfl rfl | exact x_rb g_z240 rfl rfl | exact ⟨by omega, by omega⟩) z247 b_z247) ?_)
        rintro s249 v ⟨hG_s249, t_s249, z248, rfl, g_z248⟩
        have q250 : s249 46 3 = x1000 := (t_s249 46 3 (show 452 ∉ [4131, 5824] from by decide +kernel)).trans q237
        have q251 : s249 256 6 = x1001 := (t_s249 256 6 (show 4103 ∉ [4131, 5824] from by decide +kernel)).trans q238
        have J_s249 : J s249 := J.fl J_s236 t_s249 (by decide +kernel)
        show xe (some (N, xs)) 231 686 [(0, .ref 2000), (1, .ref 0), (2, .ref 256), (3, vi x3)] [vi z248] s249 295 10442 _
        refine x_A k231_686 (fun _ => rfl) ?_
        refine x_goto k231_687 (t := 1300) rfl ?_
        refine x_iinc k231_1300 (ls' := [(3, vi (x3 + 7)), (0, .ref 2000), (1, .ref 0), (2, .ref 256)]) rfl (by decide) rfl ?_
        refine x_goto k231_1303 (t := 18) rfl ?_
        refine x_ls (l := [(0, .ref 2000), (1, .ref 0), (2, .ref 256), (3, vi (x3 + 7))]) (show ([0, 1, 2, 3] : List Nat).Nodup from by decide +kernel) ⟨rfl, rfl, rfl, rfl, trivial⟩ ?_
        exact ih s249 (x3 + 7) x1000 x1001 hG_s249 trivial ⟨by omega, by omega⟩ (by first | exact x_rb b_x1000 rfl rfl | exact ⟨by omega, by omega⟩) (by first | exact x_rb b_x1001 rfl rfl | exact ⟨by omega, by omega⟩) (by omega) (q250).symm (q251).symm J_s249  (by omega)
      · rw [c5]
        refine x_B k231_33 rfl (fun _ => rfl) (fun _ => rfl) (fun _ _ => rfl) ?_
        show xe (some (N, xs)) 231 690 [(0, .ref 2000), (1, .ref 0), (2, .ref 256), (3, vi x3)] [] s 295 10442 _
        refine x_A k231_690 (fun _ => rfl) ?_
        refine x_A k231_691 (fun _ => rfl) ?_
        refine x_A k231_692 (fun _ => rfl) ?_
        refine x_A k231_693 (fun _ => rfl) ?_
        refine x_iadd k231_694 ?_
        refine x_top (fun z252 e_z252 => ?_)
        refine x_scr k231_695 hN ⟨by omega, by omega⟩ (fun z253 g_z253 e_z253 => ?_)
        unfold in32 at g_z253
        refine x_callV k231_696 (y := 105) (n := 1) (w0 := 0) (w1 := 1) (as := [vi z253]) (rest := []) (by decide +kernel) (q := 0) (nq := 12) (kq := 3) ⟨by decide, rfl⟩ rfl rfl rfl rfl (xe_mono (C_X10_rule_0 s hG z253 (by first | exact x_rbe e_z253 g_z253 rfl rfl | exact x_rb g_z253 rfl rfl | exact ⟨by omega, by omega⟩) i_J) ?_)
        rintro s255 v ⟨hG_s255, t_s255, z254, rfl, g_z254, J_s255⟩
        have q256 : s255 46 3 = x1000 := (t_s255 46 3 (show 452 ∉ [1219, 1220, 1221, 1222, 1223, 1600, 1728, 1856, 1408, 1472, 1350, 3276, 3277, 12, 1218] from by decide +kernel)).trans e_x1000.symm
        have q257 : s255 256 6 = x1001 := (t_s255 256 6 (show 4103 ∉ [1219, 1220, 1221, 1222, 1223, 1600, 1728, 1856, 1408, 1472, 1350, 3276, 3277, 12, 1218] from by decide +kernel)).trans e_x1001.symm
        show xe (some (N, xs)) 231 699 [(0, .ref 2000), (1, .ref 0), (2, .ref 256), (3, vi x3)] [vi z254] s255 295 10442 _
        refine x_A k231_699 (fun _ => rfl) ?_
        refine x_A k231_700 (fun _ => rfl) ?_
        refine x_A k231_701 (fun _ => rfl) ?_
        refine x_A k231_702 (fun _ => rfl) ?_
        refine x_A k231_703 (fun _ => rfl) ?_
        refine x_iadd k231_704 ?_
        refine x_top (fun z258 e_z258 => ?_)
        refine x_scr k231_705 hN ⟨by omega, by omega⟩ (fun z259 g_z259 e_z259 => ?_)
        unfold in32 at g_z259
        have q_z259 : z259 = z253 := by rw [e_z259, e_z253, show z258 = z252 by omega]
        obtain ⟨z260, e_z260⟩ : ∃ z, z = s255 256 20 := ⟨_, rfl⟩
        have g_z260 : (0 : Int) ≤ s255 256 20 ∧ s255 256 20 ≤ 64 := hG_s255 256 20
        obtain ⟨z261, e_z261⟩ : ∃ z, z = s255 256 17 := ⟨_, rfl⟩
        have g_z261 : (0 : Int) ≤ s255 256 17 ∧ s255 256 17 ≤ 8 := hG_s255 256 17
        refine x_callV k231_706 (y := 187) (n := 1) (w0 := 0) (w1 := 1) (as := [vi z259]) (rest := []) (by decide +kernel) (q := 256) (nq := 62) (kq := 15) ⟨by decide, rfl⟩ rfl rfl rfl rfl (xe_mono (C_X11_rule_256 s255 hG_s255 z259 (by first | exact x_rbe e_z259 g_z259 rfl rfl | exact x_rb g_z259 rfl rfl | exact ⟨by omega, by omega⟩) ⟨by omega, by omega⟩ ⟨by omega, by omega⟩ J_s255) ?_)
        rintro s263 v ⟨hG_s263, t_s263, z262, rfl, g_z262, J_s263⟩
        have q264 : s263 46 3 = x1000 := (t_s263 46 3 (show 452 ∉ [4133, 4136, 4132, 4134, 4135, 5120, 5184, 5248, 4131, 4992, 5056, 4117, 4114] from by decide +kernel)).trans q256
        have q265 : s263 256 6 = x1001 := (t_s263 256 6 (show 4103 ∉ [4133, 4136, 4132, 4134, 4135, 5120, 5184, 5248, 4131, 4992, 5056, 4117, 4114] from by decide +kernel)).trans q257
        show xe (some (N, xs)) 231 709 [(0, .ref 2000), (1, .ref 0), (2, .ref 256), (3, vi x3)] [vi z262] s263 295 10442 _
        refine x_A k231_709 (fun _ => rfl) ?_
        refine x_goto k231_710 (t := 1300) rfl ?_
        refine x_iinc k231_1300 (ls' := [(3, vi (x3 + 7)), (0, .ref 2000), (1, .ref 0), (2, .ref 256)]) rfl (by decide) rfl ?_
        refine x_goto k231_1303 (t := 18) rfl ?_
        refine x_ls (l := [(0, .ref 2000), (1, .ref 0), (2, .ref 256), (3, vi (x3 + 7))]) (show ([0, 1, 2, 3] : List Nat).Nodup from by decide +kernel) ⟨rfl, rfl, rfl, rfl, trivial⟩ ?_
        exact ih s263 (x3 + 7) x1000 x1001 hG_s263 trivial ⟨by omega, by omega⟩ (by first | exact x_rb b_x1000 rfl rfl | exact ⟨by omega, by omega⟩) (by first | exact x_rb b_x1001 rfl rfl | exact ⟨by omega, by omega⟩) (by omega) (q264).symm (q265).symm J_s263  (by omega)
      · rw [c5]
        refine x_B k231_33 rfl (fun _ => rfl) (fun _ => rfl) (fun _ _ => rfl) ?_
        show xe (some (N, xs)) 231 713 [(0, .ref 2000), (1, .ref 0), (2, .ref 256), (3, vi x3)] [] s 295 10442 _
        refine x_A k231_713 (fun _ => rfl) ?_
        refine x_callV k231_714 (y := 106) (n := 0) (w0 := 0) (w1 := 0) (as := []) (rest := []) (by decide +kernel) (q := 0) (nq := 12) (kq := 3) ⟨by decide, rfl⟩ rfl rfl rfl rfl (xe_mono (C_X10_fault_0 s hG) ?_)
        rintro s267 v ⟨-, t_s267, z266, rfl, g_z266⟩
        rw [t_s267.nil]
        show xe (some (N, xs)) 231 717 [(0, .ref 2000), (1, .ref 0), (2, .ref 256), (3, vi x3)] [vi z266] s 295 10442 _
        refine x_A k231_717 (fun _ => rfl) ?_
        refine x_A k231_718 (fun _ => rfl) ?_
        refine x_callV k231_719 (y := 188) (n := 0) (w0 := 0) (w1 := 0) (as := []) (rest := []) (by decide +kernel) (q := 256) (nq := 62) (kq := 15) ⟨by decide, rfl⟩ rfl rfl rfl rfl (xe_mono (C_X11_fault_256 s hG) ?_)
        rintro s269 v ⟨-, t_s269, z268, rfl, g_z268⟩
        rw [t_s269.nil]
        show xe (some (N, xs)) 231 722 [(0, .ref 2000), (1, .ref 0), (2, .ref 256), (3, vi x3)] [vi z268] s 295 10442 _
        refine x_A k231_722 (fun _ => rfl) ?_
        refine x_goto k231_723 (t := 1300) rfl ?_
        refine x_iinc k231_1300 (ls' := [(3, vi (x3 + 7)), (0, .ref 2000), (1, .ref 0), (2, .ref 256)]) rfl (by decide) rfl ?_
        refine x_goto k231_1303 (t := 18) rfl ?_
        refine x_ls (l := [(0, .ref 2000), (1, .ref 0), (2, .ref 256), (3, vi (x3 + 7))]) (show ([0, 1, 2, 3] : List Nat).Nodup from by decide +kernel) ⟨rfl, rfl, rfl, rfl, trivial⟩ ?_
        exact ih s (x3 + 7) x1000 x1001 hG f ⟨by omega, by omega⟩ (by first | exact x_rb b_x1000 rfl rfl | exact ⟨by omega, by omega⟩) (by first | exact x_rb b_x1001 rfl rfl | exact ⟨by omega, by omega⟩) (by omega) (e_x1000.symm).symm (e_x1001.symm).symm i_J  (by omega)
      · rw [c5]
        refine x_B k231_33 rfl (fun _ => rfl) (fun _ => rfl) (fun _ _ => rfl) ?_
        show xe (some (N, xs)) 231 726 [(0, .ref 2000), (1, .ref 0), (2, .ref 256), (3, vi x3)] [] s 295 10442 _
        refine x_A k231_726 (fun _ => rfl) ?_
        refine x_A k231_727 (fun _ => rfl) ?_
        refine x_A k231_728 (fun _ => rfl) ?_
        refine x_A k231_729 (fun _ => rfl) ?_
        refine x_iadd k231_730 ?_
        refine x_top (fun z270 e_z270 => ?_)
        refine x_scr k231_731 hN ⟨by omega, by omega⟩ (fun z271 g_z271 e_z271 => ?_)
        unfold in32 at g_z271
        refine x_A k231_732 (fun _ => rfl) ?_
        refine x_A k231_733 (fun _ => rfl) ?_
        refine x_A k231_734 (fun _ => rfl) ?_
        refine x_iadd k231_735 ?_
        refine x_top (fun z272 e_z272 => ?_)
        refine x_scr k231_736 hN ⟨by omega, by omega⟩ (fun z273 g_z273 e_z273 => ?_)
        unfold in32 at g_z273
        refine x_callV k231_737 (y := 107) (n := 2) (w0 := 0) (w1 := 2) (as := [vi z271, vi z273]) (rest := []) (by decide +kernel) (q := 0) (nq := 12) (kq := 3) ⟨by decide, rfl⟩ rfl rfl rfl rfl (xe_mono (C_X10_force_0 s hG i_J z271 (by first | exact x_rbe e_z271 g_z271 rfl rfl | exact x_rb g_z271 rfl rfl | exact ⟨by omega, by omega⟩) z273 (by first | exact x_rbe e_z273 g_z273 rfl rfl | exact x_rb g_z273 rfl rfl | exact ⟨by omega, by omega⟩)) ?_)
        rintro s275 v ⟨hG_s275, t_s275, z274, rfl, g_z274⟩
        have q276 : s275 46 3 = x1000 := (t_s275 46 3 (show 452 ∉ [1921, 1926, 1927, 1928, 1984, 2048, 2112, 2176] from by decide +kernel)).trans e_x1000.symm
        have q277 : s275 256 6 = x1001 := (t_s275 256 6 (show 4103 ∉ [1921, 1926, 1927, 1928, 1984, 2048, 2112, 2176] from by decide +kernel)).trans e_x1001.symm
        have J_s275 : J s275 := J.fl i_J t_s275 (by decide +kernel)
        show xe (some (N, xs)) 231 740 [(0, .ref 2000), (1, .ref 0), (2, .ref 256), (3, vi x3)] [vi z274] s275 295 10442 _
        refine x_A k231_740 (fun _ => rfl) ?_
        refine x_A k231_741 (fun _ => rfl) ?_
        refine x_A k231_742 (fun _ => rfl) ?_
        refine x_A k231_743 (fun _ => rfl) ?_
        refine x_A k231_744 (fun _ => rfl) ?_
        refine x_iadd k231_745 ?_
        refine x_top (fun z278 e_z278 => ?_)
        refine x_scr k231_746 hN ⟨by omega, by omega⟩ (fun z279 g_z279 e_z279 => ?_)
        unfold in32 at g_z279
        have q_z279 : z279 = z271 := by rw [e_z279, e_z271, show z278 = z270 by omega]
        refine x_A k231_747 (fun _ => rfl) ?_
        refine x_A k231_748 (fun _ => rfl) ?_
        refine x_A k231_749 (fun _ => rfl) ?_
        refine x_iadd k231_750 ?_
        refine x_top (fun z280 e_z280 => ?_)
        refine x_scr k231_751 hN ⟨by omega, by omega⟩ (fun z281 g_z281 e_z281 => ?_)
        unfold in32 at g_z281
        have q_z281 : z281 = z273 := by rw [e_z281, e_z273, show z280 = z272 by omega]
        refine x_callV k231_752 (y := 189) (n := 2) (w0 := 0) (w1 := 2) (as := [vi z279, vi z281]) (rest := []) (by decide +kernel) (q := 256) (nq := 62) (kq := 15) ⟨by decide, rfl⟩ rfl rfl rfl rfl (xe_mono (C_X11_force_256 s275 hG_s275 J_s275 z279 (by first | exact x_rbe e_z279 g_z279 rfl rfl | exact x_rb g_z279 rfl rfl | exact ⟨by omega, by omega⟩) z281 (by first | exact x_rbe e_z281 g_z281 rfl rfl | exact x_rb g_z281 rfl rfl | exact ⟨by omega, by omega⟩)) ?_)
        rintro s283 v ⟨hG_s283, t_s283, z282, rfl, g_z282⟩
        have q284 : s283 46 3 = x1000 := (t_s283 46 3 (show 452 ∉ [5312, 5376, 4123] from by decide +kernel)).trans q276
        have q285 : s283 256 6 = x1001 := (t_s283 256 6 (show 4103 ∉ [5312, 5376, 4123] from by decide +kernel)).trans q277
        have J_s283 : J s283 := J.fl J_s275 t_s283 (by decide +kernel)
        show xe (some (N, xs)) 231 755 [(0, .ref 2000), (1, .ref 0), (2, .ref 256), (3, vi x3)] [vi z282] s283 295 10442 _
        refine x_A k231_755 (fun _ => rfl) ?_
        refine x_goto k231_756 (t := 1300) rfl ?_
        refine x_iinc k231_1300 (ls' := [(3, vi (x3 + 7)), (0, .ref 2000), (1, .ref 0), (2, .ref 256)]) rfl (by decide) rfl ?_
        refine x_goto k231_1303 (t := 18) rfl ?_
        refine x_ls (l := [(0, .ref 2000), (1, .ref 0), (2, .ref 256), (3, vi (x3 + 7))]) (show ([0, 1, 2, 3] : List Nat).Nodup from by decide +kernel) ⟨rfl, rfl, rfl, rfl, trivial⟩ ?_
        exact ih s283 (x3 + 7) x1000 x1001 hG_s283 trivial ⟨by omega, by omega⟩ (by first | exact x_rb b_x1000 rfl rfl | exact ⟨by omega, by omega⟩) (by first | exact x_rb b_x1001 rfl rfl | exact ⟨by omega, by omega⟩) (by omega) (q284).symm (q285).symm J_s283  (by omega)
      · rw [c5]
        refine x_B k231_33 rfl (fun _ => rfl) (fun _ => rfl) (fun _ _ => rfl) ?_
        show xe (some (N, xs)) 231 759 [(0, .ref 2000), (1, .ref 0), (2, .ref 256), (3, vi x3)] [] s 295 10442 _
        refine x_A k231_759 (fun _ => rfl) ?_
        refine x_A k231_760 (fun _ => rfl) ?_
        refine x_A k231_761 (fun _ => rfl) ?_
        refine x_A k231_762 (fun _ => rfl) ?_
        refine x_iadd k231_763 ?_
        refine x_top (fun z286 e_z286 => ?_)
        refine x_scr k231_764 hN ⟨by omega, by omega⟩ (fun z287 g_z287 e_z287 => ?_)
        unfold in32 at g_z287
        refine x_A k231_765 (fun _ => rfl) ?_
        refine x_A k231_766 (fun _ => rfl) ?_
        refine x_A k231_767 (fun _ => rfl) ?_
        refine x_iadd k231_768 ?_
        refine x_top (fun z288 e_z288 => ?_)
        refine x_scr k231_769 hN ⟨by omega, by omega⟩ (fun z289 g_z289 e_z289 => ?_)
        unfold in32 at g_z289
        refine x_A k231_770 (fun _ => rfl) ?_
        refine x_A k231_771 (fun _ => rfl) ?_
        refine x_A k231_772 (fun _ => rfl) ?_
        refine x_iadd k231_773 ?_
        refine x_top (fun z290 e_z290 => ?_)
        refine x_scr k231_774 hN ⟨by omega, by omega⟩ (fun z291 g_z291 e_z291 => ?_)
        unfold in32 at g_z291
        refine x_callV k231_775 (y := 108) (n := 3) (w0 := 0) (w1 := 3) (as := [vi z287, vi z289, vi z291]) (rest := []) (by decide +kernel) (q := 0) (nq := 12) (kq := 3) ⟨by decide, rfl⟩ rfl rfl rfl rfl (xe_mono (C_X10_word_0 s hG z287 (by first | exact x_rbe e_z287 g_z287 rfl rfl | exact x_rb g_z287 rfl rfl | exact ⟨by omega, by omega⟩) z289 (by first | exact x_rbe e_z289 g_z289 rfl rfl | exact x_rb g_z289 rfl rfl | exact ⟨by omega, by omega⟩) z291 (by first | exact x_rbe e_z291 g_z291 rfl rfl | exact x_rb g_z291 rfl rfl | exact ⟨by omega, by omega⟩)) ?_)
        rintro s293 v ⟨hG_s293, t_s293, z292, rfl, g_z292⟩
        have q294 : s293 46 3 = x1000 := (t_s293 46 3 (show 452 ∉ [2244, 2304, 2368, 2432] from by decide +kernel)).trans e_x1000.symm
        have q295 : s293 256 6 = x1001 := (t_s293 256 6 (show 4103 ∉ [2244, 2304, 2368, 2432] from by decide +kernel)).trans e_x1001.symm
        have J_s293 : J s293 := J.fl i_J t_s293 (by decide +kernel)
        show xe (some (N, xs)) 231 778 [(0, .ref 2000), (1, .ref 0), (2, .ref 256), (3, vi x3)] [vi z292] s293 295 10442 _
        refine x_A k231_778 (fun _ => rfl) ?_
        refine x_A k231_779 (fun _ => rfl) ?_
        refine x_A k231_780 (fun _ => rfl) ?_
        refine x_A k231_781 (fun _ => rfl) ?_
        refine x_A k231_782 (fun _ => rfl) ?_
        refine x_iadd k231_783 ?_
        refine x_top (fun z296 e_z296 => ?_)
        refine x_scr k231_784 hN ⟨by omega, by omega⟩ (fun z297 g_z297 e_z297 => ?_)
        unfold in32 at g_z297
        have q_z297 : z297 = z287 := by rw [e_z297, e_z287, show z296 = z286 by omega]
        refine x_A k231_785 (fun _ => rfl) ?_
        refine x_A k231_786 (fun _ => rfl) ?_
        refine x_A k231_787 (fun _ => rfl) ?_
        refine x_iadd k231_788 ?_
        refine x_top (fun z298 e_z298 => ?_)
        refine x_scr k231_789 hN ⟨by omega, by omega⟩ (fun z299 g_z299 e_z299 => ?_)
        unfold in32 at g_z299
        have q_z299 : z299 = z289 := by rw [e_z299, e_z289, show z298 = z288 by omega]
        refine x_A k231_790 (fun _ => rfl) ?_
        refine x_A k231_791 (fun _ => rfl) ?_
        refine x_A k231_792 (fun _ => rfl) ?_
        refine x_iadd k231_793 ?_
        refine x_top (fun z300 e_z300 => ?_)
        refine x_scr k231_794 hN ⟨by omega, by omega⟩ (fun z301 g_z301 e_z301 => ?_)
        unfold in32 at g_z301
        have q_z301 : z301 = z291 := by rw [e_z301, e_z291, show z300 = z290 by omega]
        refine x_callV k231_795 (y := 192) (n := 3) (w0 := 0) (w1 := 3) (as := [vi z297, vi z299, vi z301]) (rest := []) (by decide +kernel) (q := 256) (nq := 62) (kq := 15) ⟨by decide, rfl⟩ rfl rfl rfl rfl (xe_mono (C_X11_word_256 s293 hG_s293 z297 (by first | exact x_rbe e_z297 g_z297 rfl rfl | exact x_rb g_z297 rfl rfl | exact ⟨by omega, by omega⟩) z299 (by first | exact x_rbe e_z299 g_z299 rfl rfl | exact x_rb g_z299 rfl rfl | exact ⟨by omega, by omega⟩) z301 (by first | exact x_rbe e_z301 g_z301 rfl rfl | exact x_rb g_z301 rfl rfl | exact ⟨by omega, by omega⟩)) ?_)
        rintro s303 v ⟨hG_s303, t_s303, z302, rfl, g_z302⟩
        have q304 : s303 46 3 = x1000 := (t_s303 46 3 (show 452 ∉ [4137, 5888, 5952] from by decide +kernel)).trans q294
        have q305 : s303 256 6 = x1001 := (t_s303 256 6 (show 4103 ∉ [4137, 5888, 5952] from by decide +kernel)).trans q295
        have J_s303 : J s303 := J.fl J_s293 t_s303 (by decide +kernel)
        show xe (some (N, xs)) 231 798 [(0, .ref 2000), (1, .ref 0), (2, .ref 256), (3, vi x3)] [vi z302] s303 295 10442 _
        refine x_A k231_798 (fun _ => rfl) ?_
        refine x_goto k231_799 (t := 1300) rfl ?_
        refine x_iinc k231_1300 (ls' := [(3, vi (x3 + 7)), (0, .ref 2000), (1, .ref 0), (2, .ref 256)]) rfl (by decide) rfl ?_
        refine x_goto k231_1303 (t := 18) rfl ?_
        refine x_ls (l := [(0, .ref 2000), (1, .ref 0), (2, .ref 256), (3, vi (x3 + 7))]) (show ([0, 1, 2, 3] : List Nat).Nodup from by decide +kernel) ⟨rfl, rfl, rfl, rfl, trivial⟩ ?_
        exact ih s303 (x3 + 7) x1000 x1001 hG_s303 trivial ⟨by omega, by omega⟩ (by first | exact x_rb b_x1000 rfl rfl | exact ⟨by omega, by omega⟩) (by first | exact x_rb b_x1001 rfl rfl | exact ⟨by omega, by omega⟩) (by omega) (q304).symm (q305).symm J_s303  (by omega)
      · rw [c5]
        refine x_B k231_33 rfl (fun _ => rfl) (fun _ => rfl) (fun _ _ => rfl) ?_
        show xe (some (N, xs)) 231 802 [(0, .ref 2000), (1, .ref 0), (2, .ref 256), (3, vi x3)] [] s 295 10442 _
        refine x_A k231_802 (fun _ => rfl) ?_
        refine x_A k231_803 (fun _ => rfl) ?_
        refine x_A k231_804 (fun _ => rfl) ?_
        refine x_A k231_805 (fun _ => rfl) ?_
        refine x_iadd k231_806 ?_
        refine x_top (fun z306 e_z306 => ?_)
        refine x_scr k231_807 hN ⟨by omega, by omega⟩ (fun z307 g_z307 e_z307 => ?_)
        unfold in32 at g_z307
        refine x_A k231_808 (fun _ => rfl) ?_
        refine x_A k231_809 (fun _ => rfl) ?_
        refine x_A k231_810 (fun _ => rfl) ?_
        refine x_iadd k231_811 ?_
        refine x_top (fun z308 e_z308 => ?_)
        refine x_scr k231_812 hN ⟨by omega, by omega⟩ (fun z309 g_z309 e_z309 => ?_)
        unfold in32 at g_z309
        refine x_callV k231_813 (y := 109) (n := 2) (w0 := 0) (w1 := 2) (as := [vi z307, vi z309]) (rest := []) (by decide +kernel) (q := 0) (nq := 12) (kq := 3) ⟨by decide, rfl⟩ rfl rfl rfl rfl (xe_mono (C_X10_leads_0 s hG z307 (by first | exact x_rbe e_z307 g_z307 rfl rfl | exact x_rb g_z307 rfl rfl | exact ⟨by omega, by omega⟩) z309 (by first | exact x_rbe e_z309 g_z309 rfl rfl | exact x_rb g_z309 rfl rfl | exact ⟨by omega, by omega⟩)) ?_)
        rintro s311 v ⟨-, t_s311, z310, rfl, g_z310⟩
        rw [t_s311.nil]
        show xe (some (N, xs)) 231 816 [(0, .ref 2000), (1, .ref 0), (2, .ref 256), (3, vi x3)] [vi z310] s 295 10442 _
        refine x_A k231_816 (fun _ => rfl) ?_
        refine x_A k231_817 (fun _ => rfl) ?_
        refine x_A k231_818 (fun _ => rfl) ?_
        refine x_A k231_819 (fun _ => rfl) ?_
        refine x_A k231_820 (fun _ => rfl) ?_
        refine x_iadd k231_821 ?_
        refine x_top (fun z312 e_z312 => ?_)
        refine x_scr k231_822 hN ⟨by omega, by omega⟩ (fun z313 g_z313 e_z313 => ?_)
        unfold in32 at g_z313
        have q_z313 : z313 = z307 := by rw [e_z313, e_z307, show z312 = z306 by omega]
        refine x_A k231_823 (fun _ => rfl) ?_
        refine x_A k231_824 (fun _ => rfl) ?_
        refine x_A k231_825 (fun _ => rfl) ?_
        refine x_iadd k231_826 ?_
        refine x_top (fun z314 e_z314 => ?_)
        refine x_scr k231_827 hN ⟨by omega, by omega⟩ (fun z315 g_z315 e_z315 => ?_)
        unfold in32 at g_z315
        have q_z315 : z315 = z309 := by rw [e_z315, e_z309, show z314 = z308 by omega]
        refine x_callV k231_828 (y := 193) (n := 2) (w0 := 0) (w1 := 2) (as := [vi z313, vi z315]) (rest := []) (by decide +kernel) (q := 256) (nq := 62) (kq := 15) ⟨by decide, rfl⟩ rfl rfl rfl rfl (xe_mono (C_X11_leads_256 s hG z313 (by first | exact x_rbe e_z313 g_z313 rfl rfl | exact x_rb g_z313 rfl rfl | exact ⟨by omega, by omega⟩) z315 (by first | exact x_rbe e_z315 g_z315 rfl rfl | exact x_rb g_z315 rfl rfl | exact ⟨by omega, by omega⟩)) ?_)
        rintro s317 v ⟨-, t_s317, z316, rfl, g_z316⟩
        rw [t_s317.nil]
        show xe (some (N, xs)) 231 831 [(0, .ref 2000), (1, .ref 0), (2, .ref 256), (3, vi x3)] [vi z316] s 295 10442 _
        refine x_A k231_831 (fun _ => rfl) ?_
        refine x_goto k231_832 (t := 1300) rfl ?_
        refine x_iinc k231_1300 (ls' := [(3, vi (x3 + 7)), (0, .ref 2000), (1, .ref 0), (2, .ref 256)]) rfl (by decide) rfl ?_
        refine x_goto k231_1303 (t := 18) rfl ?_
        refine x_ls (l := [(0, .ref 2000), (1, .ref 0), (2, .ref 256), (3, vi (x3 + 7))]) (show ([0, 1, 2, 3] : List Nat).Nodup from by decide +kernel) ⟨rfl, rfl, rfl, rfl, trivial⟩ ?_
        exact ih s (x3 + 7) x1000 x1001 hG f ⟨by omega, by omega⟩ (by first | exact x_rb b_x1000 rfl rfl | exact ⟨by omega, by omega⟩) (by first | exact x_rb b_x1001 rfl rfl | exact ⟨by omega, by omega⟩) (by omega) (e_x1000.symm).symm (e_x1001.symm).symm i_J  (by omega)
      · rw [c5]
        refine x_B k231_33 rfl (fun _ => rfl) (fun _ => rfl) (fun _ _ => rfl) ?_
        show xe (some (N, xs)) 231 835 [(0, .ref 2000), (1, .ref 0), (2, .ref 256), (3, vi x3)] [] s 295 10442 _
        refine x_A k231_835 (fun _ => rfl) ?_
        refine x_callV k231_836 (y := 110) (n := 0) (w0 := 0) (w1 := 0) (as := []) (rest := []) (by decide +kernel) (q := 0) (nq := 12) (kq := 3) ⟨by decide, rfl⟩ rfl rfl rfl rfl (xe_mono (C_X10_ask_0 s hG) ?_)
        rintro s319 v ⟨hG_s319, t_s319, z318, rfl, g_z318⟩
        have q320 : s319 46 3 = x1000 := (t_s319 46 3 (show 452 ∉ [2501, 2502, 2560, 2688, 2816, 1219, 1220, 1221, 1222, 1223, 2503, 12, 1218] from by decide +kernel)).trans e_x1000.symm
        have q321 : s319 256 6 = x1001 := (t_s319 256 6 (show 4103 ∉ [2501, 2502, 2560, 2688, 2816, 1219, 1220, 1221, 1222, 1223, 2503, 12, 1218] from by decide +kernel)).trans e_x1001.symm
        have J_s319 : J s319 := J.fl i_J t_s319 (by decide +kernel)
        show xe (some (N, xs)) 231 839 [(0, .ref 2000), (1, .ref 0), (2, .ref 256), (3, vi x3)] [vi z318] s319 295 10442 _
        refine x_A k231_839 (fun _ => rfl) ?_
        refine x_A k231_840 (fun _ => rfl) ?_
        obtain ⟨z322, e_z322⟩ : ∃ z, z = s319 256 47 := ⟨_, rfl⟩
        have g_z322 : (0 : Int) ≤ s319 256 47 ∧ s319 256 47 ≤ 110 := hG_s319 256 47
        obtain ⟨z323, e_z323⟩ : ∃ z, z = s319 256 48 := ⟨_, rfl⟩
        have g_z323 : (0 : Int) ≤ s319 256 48 ∧ s319 256 48 ≤ 120 := hG_s319 256 48
        obtain ⟨z324, e_z324⟩ : ∃ z, z = s319 256 36 := ⟨_, rfl⟩
        have g_z324 : (0 : Int) ≤ s319 256 36 ∧ s319 256 36 ≤ 160 := hG_s319 256 36
        obtain ⟨z325, e_z325⟩ : ∃ z, z = s319 256 34 := ⟨_, rfl⟩
        have g_z325 : (0 : Int) ≤ s319 256 34 ∧ s319 256 34 ≤ 160 := hG_s319 256 34
        obtain ⟨z326, e_z326⟩ : ∃ z, z = s319 256 43 := ⟨_, rfl⟩
        have g_z326 : (0 : Int) ≤ s319 256 43 ∧ s319 256 43 ≤ 8 := hG_s319 256 43
        obtain ⟨z327, e_z327⟩ : ∃ z, z = s319 256 50 := ⟨_, rfl⟩
        have g_z327 : (0 : Int) ≤ s319 256 50 ∧ s319 256 50 ≤ 5 := hG_s319 256 50
        obtain ⟨z328, e_z328⟩ : ∃ z, z = s319 256 51 := ⟨_, rfl⟩
        have g_z328 : (0 : Int) ≤ s319 256 51 ∧ s319 256 51 ≤ 1 := hG_s319 256 51
        refine x_callV k231_841 (y := 200) (n := 0) (w0 := 0) (w1 := 0) (as := []) (rest := []) (by decide +kernel) (q := 256) (nq := 62) (kq := 15) ⟨by decide, rfl⟩ rfl rfl rfl rfl (xe_mono (C_X11_ask_256 s319 hG_s319 ⟨by omega, by omega⟩ ⟨by omega, by omega⟩ ⟨by omega, by omega⟩ ⟨by omega, by omega⟩ ⟨by omega, by omega⟩ ⟨by omega, by omega⟩ ⟨by omega, by omega⟩ J_s319) ?_)
        rintro s330 v ⟨hG_s330, t_s330, z329, rfl, g_z329, J_s330⟩
        have q331 : s330 46 3 = x1000 := (t_s330 46 3 (show 452 ∉ [4133, 4136, 4132, 4134, 4135, 6080, 6144, 4144, 4145, 4148, 4147, 6208, 4131, 6016, 4140] from by decide +kernel)).trans q320
        have q332 : s330 256 6 = x1001 := (t_s330 256 6 (show 4103 ∉ [4133, 4136, 4132, 4134, 4135, 6080, 6144, 4144, 4145, 4148, 4147, 6208, 4131, 6016, 4140] from by decide +kernel)).trans q321
        show xe (some (N, xs)) 231 844 [(0, .ref 2000), (1, .ref 0), (2, .ref 256), (3, vi x3)] [vi z329] s330 295 10442 _
        refine x_A k231_844 (fun _ => rfl) ?_
        refine x_goto k231_845 (t := 1300) rfl ?_
        refine x_iinc k231_1300 (ls' := [(3, vi (x3 + 7)), (0, .ref 2000), (1, .ref 0), (2, .ref 256)]) rfl (by decide) rfl ?_
        refine x_goto k231_1303 (t := 18) rfl ?_
        refine x_ls (l := [(0, .ref 2000), (1, .ref 0), (2, .ref 256), (3, vi (x3 + 7))]) (show ([0, 1, 2, 3] : List Nat).Nodup from by decide +kernel) ⟨rfl, rfl, rfl, rfl, trivial⟩ ?_
        exact ih s330 (x3 + 7) x1000 x1001 hG_s330 trivial ⟨by omega, by omega⟩ (by first | exact x_rb b_x1000 rfl rfl | exact ⟨by omega, by omega⟩) (by first | exact x_rb b_x1001 rfl rfl | exact ⟨by omega, by omega⟩) (by omega) (q331).symm (q332).symm J_s330  (by omega)
      · rw [c5]
        refine x_B k231_33 rfl (fun _ => rfl) (fun _ => rfl) (fun _ _ => rfl) ?_
        show xe (some (N, xs)) 231 848 [(0, .ref 2000), (1, .ref 0), (2, .ref 256), (3, vi x3)] [] s 295 10442 _
        refine x_A k231_848 (fun _ => rfl) ?_
        refine x_A k231_849 (fun _ => rfl) ?_
        refine x_A k231_850 (fun _ => rfl) ?_
        refine x_A k231_851 (fun _ => rfl) ?_
        refine x_iadd k231_852 ?_
        refine x_top (fun z333 e_z333 => ?_)
        refine x_scr k231_853 hN ⟨by omega, by omega⟩ (fun z334 g_z334 e_z334 => ?_)
        unfold in32 at g_z334
        refine x_A k231_854 (fun _ => rfl) ?_
        refine x_A k231_855 (fun _ => rfl) ?_
        refine x_A k231_856 (fun _ => rfl) ?_
        refine x_iadd k231_857 ?_
        refine x_top (fun z335 e_z335 => ?_)
        refine x_scr k231_858 hN ⟨by omega, by omega⟩ (fun z336 g_z336 e_z336 => ?_)
        unfold in32 at g_z336
        refine x_A k231_859 (fun _ => rfl) ?_
        refine x_A k231_860 (fun _ => rfl) ?_
        refine x_A k231_861 (fun _ => rfl) ?_
        refine x_iadd k231_862 ?_
        refine x_top (fun z337 e_z337 => ?_)
        refine x_scr k231_863 hN ⟨by omega, by omega⟩ (fun z338 g_z338 e_z338 => ?_)
        unfold in32 at g_z338
        refine x_callV k231_864 (y := 111) (n := 3) (w0 := 0) (w1 := 3) (as := [vi z334, vi z336, vi z338]) (rest := []) (by decide +kernel) (q := 0) (nq := 12) (kq := 3) ⟨by decide, rfl⟩ rfl rfl rfl rfl (xe_mono (C_X10_met_0 s hG i_J z334 (by first | exact x_rbe e_z334 g_z334 rfl rfl | exact x_rb g_z334 rfl rfl | exact ⟨by omega, by omega⟩) z336 (by first | exact x_rbe e_z336 g_z336 rfl rfl | exact x_rb g_z336 rfl rfl | exact ⟨by omega, by omega⟩) z338 (by first | exact x_rbe e_z338 g_z338 rfl rfl | exact x_rb g_z338 rfl rfl | exact ⟨by omega, by omega⟩)) ?_)
        rintro s340 v ⟨hG_s340, t_s340, z339, rfl, g_z339⟩
        have q341 : s340 46 3 = x1000 := (t_s340 46 3 (show 452 ∉ [3329, 3334, 3335, 3336, 3392, 3456, 3520, 3584, 3276, 3648, 3712, 3776, 3840, 3904, 3968, 3277, 4032, 2752] from by decide +kernel)).trans e_x1000.symm
        have q342 : s340 256 6 = x1001 := (t_s340 256 6 (show 4103 ∉ [3329, 3334, 3335, 3336, 3392, 3456, 3520, 3584, 3276, 3648, 3712, 3776, 3840, 3904, 3968, 3277, 4032, 2752] from by decide +kernel)).trans e_x1001.symm
        have J_s340 : J s340 := J.fl i_J t_s340 (by decide +kernel)
        show xe (some (N, xs)) 231 867 [(0, .ref 2000), (1, .ref 0), (2, .ref 256), (3, vi x3)] [vi z339] s340 295 10442 _
        refine x_A k231_867 (fun _ => rfl) ?_
        refine x_A k231_868 (fun _ => rfl) ?_
        refine x_A k231_869 (fun _ => rfl) ?_
        refine x_A k231_870 (fun _ => rfl) ?_
        refine x_A k231_871 (fun _ => rfl) ?_
        refine x_iadd k231_872 ?_
        refine x_top (fun z343 e_z343 => ?_)
        refine x_scr k231_873 hN ⟨by omega, by omega⟩ (fun z344 g_z344 e_z344 => ?_)
        unfold in32 at g_z344
        have q_z344 : z344 = z334 := by rw [e_z344, e_z334, show z343 = z333 by omega]
        refine x_A k231_874 (fun _ => rfl) ?_
        refine x_A k231_875 (fun _ => rfl) ?_
        refine x_A k231_876 (fun _ => rfl) ?_
        refine x_iadd k231_877 ?_
        refine x_top (fun z345 e_z345 => ?_)
        refine x_scr k231_878 hN ⟨by omega, by omega⟩ (fun z346 g_z346 e_z346 => ?_)
        unfold in32 at g_z346
        have q_z346 : z346 = z336 := by rw [e_z346, e_z336, show z345 = z335 by omega]
        refine x_A k231_879 (fun _ => rfl) ?_
        refine x_A k231_880 (fun _ => rfl) ?_
        refine x_A k231_881 (fun _ => rfl) ?_
        refine x_iadd k231_882 ?_
        refine x_top (fun z347 e_z347 => ?_)
        refine x_scr k231_883 hN ⟨by omega, by omega⟩ (fun z348 g_z348 e_z348 => ?_)
        unfold in32 at g_z348
        have q_z348 : z348 = z338 := by rw [e_z348, e_z338, show z347 = z337 by omega]
        refine x_callV k231_884 (y := 204) (n := 3) (w0 := 0) (w1 := 3) (as := [vi z344, vi z346, vi z348]) (rest := []) (by decide +kernel) (q := 256) (nq := 62) (kq := 15) ⟨by decide, rfl⟩ rfl rfl rfl rfl (xe_mono (C_X11_met_256 s340 hG_s340 J_s340 z344 (by first | exact x_rbe e_z344 g_z344 rfl rfl | exact x_rb g_z344 rfl rfl | exact ⟨by omega, by omega⟩) z346 (by first | exact x_rbe e_z346 g_z346 rfl rfl | exact x_rb g_z346 rfl rfl | exact ⟨by omega, by omega⟩) z348 (by first | exact x_rbe e_z348 g_z348 rfl rfl | exact x_rb g_z348 rfl rfl | exact ⟨by omega, by omega⟩)) ?_)
        rintro s350 v ⟨hG_s350, t_s350, z349, rfl, g_z349⟩
        have q351 : s350 46 3 = x1000 := (t_s350 46 3 (show 452 ∉ [5312, 5376, 4123, 5440, 5504, 5568, 5632, 5696, 5760, 6272] from by decide +kernel)).trans q341
        have q352 : s350 256 6 = x1001 := (t_s350 256 6 (show 4103 ∉ [5312, 5376, 4123, 5440, 5504, 5568, 5632, 5696, 5760, 6272] from by decide +kernel)).trans q342
        have J_s350 : J s350 := J.fl J_s340 t_s350 (by decide +kernel)
        show xe (some (N, xs)) 231 887 [(0, .ref 2000), (1, .ref 0), (2, .ref 256), (3, vi x3)] [vi z349] s350 295 10442 _
        refine x_A k231_887 (fun _ => rfl) ?_
        refine x_goto k231_888 (t := 1300) rfl ?_
        refine x_iinc k231_1300 (ls' := [(3, vi (x3 + 7)), (0, .ref 2000), (1, .ref 0), (2, .ref 256)]) rfl (by decide) rfl ?_
        refine x_goto k231_1303 (t := 18) rfl ?_
        refine x_ls (l := [(0, .ref 2000), (1, .ref 0), (2, .ref 256), (3, vi (x3 + 7))]) (show ([0, 1, 2, 3] : List Nat).Nodup from by decide +kernel) ⟨rfl, rfl, rfl, rfl, trivial⟩ ?_
        exact ih s350 (x3 + 7) x1000 x1001 hG_s350 trivial ⟨by omega, by omega⟩ (by first | exact x_rb b_x1000 rfl rfl | exact ⟨by omega, by omega⟩) (by first | exact x_rb b_x1001 rfl rfl | exact ⟨by omega, by omega⟩) (by omega) (q351).symm (q352).symm J_s350  (by omega)
      · rw [c5]
        refine x_B k231_33 rfl (fun _ => rfl) (fun _ => rfl) (fun _ _ => rfl) ?_
        show xe (some (N, xs)) 231 891 [(0, .ref 2000), (1, .ref 0), (2, .ref 256), (3, vi x3)] [] s 295 10442 _
        refine x_A k231_891 (fun _ => rfl) ?_
        refine x_A k231_892 (fun _ => rfl) ?_
        refine x_A k231_893 (fun _ => rfl) ?_
        refine x_A k231_894 (fun _ => rfl) ?_
        refine x_iadd k231_895 ?_
        refine x_top (fun z353 e_z353 => ?_)
        refine x_scr k231_896 hN ⟨by omega, by omega⟩ (fun z354 g_z354 e_z354 => ?_)
        unfold in32 at g_z354
        refine x_A k231_897 (fun _ => rfl) ?_
        refine x_A k231_898 (fun _ => rfl) ?_
        refine x_A k231_899 (fun _ => rfl) ?_
        refine x_iadd k231_900 ?_
        refine x_top (fun z355 e_z355 => ?_)
        refine x_scr k231_901 hN ⟨by omega, by omega⟩ (fun z356 g_z356 e_z356 => ?_)
        unfold in32 at g_z356
        refine x_A k231_902 (fun _ => rfl) ?_
        refine x_A k231_903 (fun _ => rfl) ?_
        refine x_A k231_904 (fun _ => rfl) ?_
        refine x_iadd k231_905 ?_
        refine x_top (fun z357 e_z357 => ?_)
        refine x_scr k231_906 hN ⟨by omega, by omega⟩ (fun z358 g_z358 e_z358 => ?_)
        unfold in32 at g_z358
        refine x_A k231_907 (fun _ => rfl) ?_
        refine x_A k231_908 (fun _ => rfl) ?_
        refine x_A k231_909 (fun _ => rfl) ?_
        refine x_iadd k231_910 ?_
        refine x_top (fun z359 e_z359 => ?_)
        refine x_scr k231_911 hN ⟨by omega, by omega⟩ (fun z360 g_z360 e_z360 => ?_)
        unfold in32 at g_z360
        refine x_A k231_912 (fun _ => rfl) ?_
        refine x_A k231_913 (fun _ => rfl) ?_
        refine x_A k231_914 (fun _ => rfl) ?_
        refine x_iadd k231_915 ?_
        refine x_top (fun z361 e_z361 => ?_)
        refine x_scr k231_916 hN ⟨by omega, by omega⟩ (fun z362 g_z362 e_z362 => ?_)
        unfold in32 at g_z362
        refine x_callV k231_917 (y := 112) (n := 5) (w0 := 0) (w1 := 5) (as := [vi z354, vi z356, vi z358, vi z360, vi z362]) (rest := []) (by decide +kernel) (q := 0) (nq := 12) (kq := 3) ⟨by decide, rfl⟩ rfl rfl rfl rfl (xe_mono (C_X10_hands_0 s hG i_J z354 (by first | exact x_rbe e_z354 g_z354 rfl rfl | exact x_rb g_z354 rfl rfl | exact ⟨by omega, by omega⟩) z356 (by first | exact x_rbe e_z356 g_z356 rfl rfl | exact x_rb g_z356 rfl rfl | exact ⟨by omega, by omega⟩) z358 (by first | exact x_rbe e_z358 g_z358 rfl rfl | exact x_rb g_z358 rfl rfl | exact ⟨by omega, by omega⟩) z360 (by first | exact x_rbe e_z360 g_z360 rfl rfl | exact x_rb g_z360 rfl rfl | exact ⟨by omega, by omega⟩) z362 (by first | exact x_rbe e_z362 g_z362 rfl rfl | exact x_rb g_z362 rfl rfl | exact ⟨by omega, by omega⟩)) ?_)
        rintro s364 v ⟨hG_s364, t_s364, z363, rfl, g_z363⟩
        have q365 : s364 46 3 = x1000 := (t_s364 46 3 (show 452 ∉ [3329, 3334, 3335, 3336, 3392, 3456, 3520, 3584, 3276, 3648, 3712, 3776, 3840, 3904, 3968, 3277, 4032] from by decide +kernel)).trans e_x1000.symm
        have q366 : s364 256 6 = x1001 := (t_s364 256 6 (show 4103 ∉ [3329, 3334, 3335, 3336, 3392, 3456, 3520, 3584, 3276, 3648, 3712, 3776, 3840, 3904, 3968, 3277, 4032] from by decide +kernel)).trans e_x1001.symm
        have J_s364 : J s364 := J.fl i_J t_s364 (by decide +kernel)
        show xe (some (N, xs)) 231 920 [(0, .ref 2000), (1, .ref 0), (2, .ref 256), (3, vi x3)] [vi z363] s364 295 10442 _
        refine x_A k231_920 (fun _ => rfl) ?_
        refine x_A k231_921 (fun _ => rfl) ?_
        refine x_A k231_922 (fun _ => rfl) ?_
        refine x_A k231_923 (fun _ => rfl) ?_
        refine x_A k231_924 (fun _ => rfl) ?_
        refine x_iadd k231_925 ?_
        refine x_top (fun z367 e_z367 => ?_)
        refine x_scr k231_926 hN ⟨by omega, by omega⟩ (fun z368 g_z368 e_z368 => ?_)
        unfold in32 at g_z368
        have q_z368 : z368 = z354 := by rw [e_z368, e_z354, show z367 = z353 by omega]
        refine x_A k231_927 (fun _ => rfl) ?_
        refine x_A k231_928 (fun _ => rfl) ?_
        refine x_A k231_929 (fun _ => rfl) ?_
        refine x_iadd k231_930 ?_
        refine x_top (fun z369 e_z369 => ?_)
        refine x_scr k231_931 hN ⟨by omega, by omega⟩ (fun z370 g_z370 e_z370 => ?_)
        unfold in32 at g_z370
        have q_z370 : z370 = z356 := by rw [e_z370, e_z356, show z369 = z355 by omega]
        refine x_A k231_932 (fun _ => rfl) ?_
        refine x_A k231_933 (fun _ => rfl) ?_
        refine x_A k231_934 (fun _ => rfl) ?_
        refine x_iadd k231_935 ?_
        refine x_top (fun z371 e_z371 => ?_)
        refine x_scr k231_936 hN ⟨by omega, by omega⟩ (fun z372 g_z372 e_z372 => ?_)
        unfold in32 at g_z372
        have q_z372 : z372 = z358 := by rw [e_z372, e_z358, show z371 = z357 by omega]
        refine x_A k231_937 (fun _ => rfl) ?_
        refine x_A k231_938 (fun _ => rfl) ?_
        refine x_A k231_939 (fun _ => rfl) ?_
        refine x_iadd k231_940 ?_
        refine x_top (fun z373 e_z373 => ?_)
        refine x_scr k231_941 hN ⟨by omega, by omega⟩ (fun z374 g_z374 e_z374 => ?_)
        unfold in32 at g_z374
        have q_z374 : z374 = z360 := by rw [e_z374, e_z360, show z373 = z359 by omega]
        refine x_A k231_942 (fun _ => rfl) ?_
        refine x_A k231_943 (fun _ => rfl) ?_
        refine x_A k231_944 (fun _ => rfl) ?_
        refine x_iadd k231_945 ?_
        refine x_top (fun z375 e_z375 => ?_)
        refine x_scr k231_946 hN ⟨by omega, by omega⟩ (fun z376 g_z376 e_z376 => ?_)
        unfold in32 at g_z376
        have q_z376 : z376 = z362 := by rw [e_z376, e_z362, show z375 = z361 by omega]
        refine x_callV k231_947 (y := 206) (n := 5) (w0 := 0) (w1 := 5) (as := [vi z368, vi z370, vi z372, vi z374, vi z376]) (rest := []) (by decide +kernel) (q := 256) (nq := 62) (kq := 15) ⟨by decide, rfl⟩ rfl rfl rfl rfl (xe_mono (C_X11_hands_256 s364 hG_s364 J_s364 z368 (by first | exact x_rbe e_z368 g_z368 rfl rfl | exact x_rb g_z368 rfl rfl | exact ⟨by omega, by omega⟩) z370 (by first | exact x_rbe e_z370 g_z370 rfl rfl | exact x_rb g_z370 rfl rfl | exact ⟨by omega, by omega⟩) z372 (by first | exact x_rbe e_z372 g_z372 rfl rfl | exact x_rb g_z372 rfl rfl | exact ⟨by omega, by omega⟩) z374 (by first | exact x_rbe e_z374 g_z374 rfl rfl | exact x_rb g_z374 rfl rfl | exact ⟨by omega, by omega⟩) z376 (by first | exact x_rbe e_z376 g_z376 rfl rfl | exact x_rb g_z376 rfl rfl | exact ⟨by omega, by omega⟩)) ?_)
        rintro s378 v ⟨hG_s378, t_s378, z377, rfl, g_z377⟩
        have q379 : s378 46 3 = x1000 := (t_s378 46 3 (show 452 ∉ [5312, 5376, 4123, 5440, 5504, 5568, 5632, 5696, 5760] from by decide +kernel)).trans q365
        have q380 : s378 256 6 = x1001 := (t_s378 256 6 (show 4103 ∉ [5312, 5376, 4123, 5440, 5504, 5568, 5632, 5696, 5760] from by decide +kernel)).trans q366
        have J_s378 : J s378 := J.fl J_s364 t_s378 (by decide +kernel)
        show xe (some (N, xs)) 231 950 [(0, .ref 2000), (1, .ref 0), (2, .ref 256), (3, vi x3)] [vi z377] s378 295 10442 _
        refine x_A k231_950 (fun _ => rfl) ?_
        refine x_goto k231_951 (t := 1300) rfl ?_
        refine x_iinc k231_1300 (ls' := [(3, vi (x3 + 7)), (0, .ref 2000), (1, .ref 0), (2, .ref 256)]) rfl (by decide) rfl ?_
        refine x_goto k231_1303 (t := 18) rfl ?_
        refine x_ls (l := [(0, .ref 2000), (1, .ref 0), (2, .ref 256), (3, vi (x3 + 7))]) (show ([0, 1, 2, 3] : List Nat).Nodup from by decide +kernel) ⟨rfl, rfl, rfl, rfl, trivial⟩ ?_
        exact ih s378 (x3 + 7) x1000 x1001 hG_s378 trivial ⟨by omega, by omega⟩ (by first | exact x_rb b_x1000 rfl rfl | exact ⟨by omega, by omega⟩) (by first | exact x_rb b_x1001 rfl rfl | exact ⟨by omega, by omega⟩) (by omega) (q379).symm (q380).symm J_s378  (by omega)
      · rw [c5]
        refine x_B k231_33 rfl (fun _ => rfl) (fun _ => rfl) (fun _ _ => rfl) ?_
        show xe (some (N, xs)) 231 954 [(0, .ref 2000), (1, .ref 0), (2, .ref 256), (3, vi x3)] [] s 295 10442 _
        refine x_A k231_954 (fun _ => rfl) ?_
        refine x_A k231_955 (fun _ => rfl) ?_
        refine x_A k231_956 (fun _ => rfl) ?_
        refine x_A k231_957 (fun _ => rfl) ?_
        refine x_iadd k231_958 ?_
        refine x_top (fun z381 e_z381 => ?_)
        refine x_scr k231_959 hN ⟨by omega, by omega⟩ (fun z382 g_z382 e_z382 => ?_)
        unfold in32 at g_z382
        refine x_A k231_960 (fun _ => rfl) ?_
        refine x_A k231_961 (fun _ => rfl) ?_
        refine x_A k231_962 (fun _ => rfl) ?_
        refine x_iadd k231_963 ?_
        refine x_top (fun z383 e_z383 => ?_)
        refine x_scr k231_964 hN ⟨by omega, by omega⟩ (fun z384 g_z384 e_z384 => ?_)
        unfold in32 at g_z384
        refine x_A k231_965 (fun _ => rfl) ?_
        refine x_A k231_966 (fun _ => rfl) ?_
        refine x_A k231_967 (fun _ => rfl) ?_
        refine x_iadd k231_968 ?_
        refine x_top (fun z385 e_z385 => ?_)
        refine x_scr k231_969 hN ⟨by omega, by omega⟩ (fun z386 g_z386 e_z386 => ?_)
        unfold in32 at g_z386
        refine x_A k231_970 (fun _ => rfl) ?_
        refine x_A k231_971 (fun _ => rfl) ?_
        refine x_A k231_972 (fun _ => rfl) ?_
        refine x_iadd k231_973 ?_
        refine x_top (fun z387 e_z387 => ?_)
        refine x_scr k231_974 hN ⟨by omega, by omega⟩ (fun z388 g_z388 e_z388 => ?_)
        unfold in32 at g_z388
        refine x_A k231_975 (fun _ => rfl) ?_
        refine x_A k231_976 (fun _ => rfl) ?_
        refine x_A k231_977 (fun _ => rfl) ?_
        refine x_iadd k231_978 ?_
        refine x_top (fun z389 e_z389 => ?_)
        refine x_scr k231_979 hN ⟨by omega, by omega⟩ (fun z390 g_z390 e_z390 => ?_)
        unfold in32 at g_z390
        refine x_A k231_980 (fun _ => rfl) ?_
        refine x_A k231_981 (fun _ => rfl) ?_
        refine x_bipush k231_982 (by decide +kernel) ?_
        refine x_iadd k231_984 ?_
        refine x_top (fun z391 e_z391 => ?_)
        refine x_scr k231_985 hN ⟨by omega, by omega⟩ (fun z392 g_z392 e_z392 => ?_)
        unfold in32 at g_z392
        refine x_callV k231_986 (y := 113) (n := 6) (w0 := 0) (w1 := 6) (as := [vi z382, vi z384, vi z386, vi z388, vi z390, vi z392]) (rest := []) (by decide +kernel) (q := 0) (nq := 12) (kq := 3) ⟨by decide, rfl⟩ rfl rfl rfl rfl (xe_mono (C_X10_together_0 s hG i_J z382 (by first | exact x_rbe e_z382 g_z382 rfl rfl | exact x_rb g_z382 rfl rfl | exact ⟨by omega, by omega⟩) z384 (by first | exact x_rbe e_z384 g_z384 rfl rfl | exact x_rb g_z384 rfl rfl | exact ⟨by omega, by omega⟩) z386 (by first | exact x_rbe e_z386 g_z386 rfl rfl | exact x_rb g_z386 rfl rfl | exact ⟨by omega, by omega⟩) z388 (by first | exact x_rbe e_z388 g_z388 rfl rfl | exact x_rb g_z388 rfl rfl | exact ⟨by omega, by omega⟩) z390 (by first | exact x_rbe e_z390 g_z390 rfl rfl | exact x_rb g_z390 rfl rfl | exact ⟨by omega, by omega⟩) z392 (by first | exact x_rbe e_z392 g_z392 rfl rfl | exact x_rb g_z392 rfl rfl | exact ⟨by omega, by omega⟩)) ?_)
        rintro s394 v ⟨hG_s394, t_s394, z393, rfl, g_z393⟩
        have q395 : s394 46 3 = x1000 := (t_s394 46 3 (show 452 ∉ [3329, 3334, 3335, 3336, 3392, 3456, 3520, 3584, 3276, 3648, 3712, 3776, 3840, 3904, 3968, 3277, 4032] from by decide +kernel)).trans e_x1000.symm
        have q396 : s394 256 6 = x1001 := (t_s394 256 6 (show 4103 ∉ [3329, 3334, 3335, 3336, 3392, 3456, 3520, 3584, 3276, 3648, 3712, 3776, 3840, 3904, 3968, 3277, 4032] from by decide +kernel)).trans e_x1001.symm
        have J_s394 : J s394 := J.fl i_J t_s394 (by decide +kernel)
        show xe (some (N, xs)) 231 989 [(0, .ref 2000), (1, .ref 0), (2, .ref 256), (3, vi x3)] [vi z393] s394 295 10442 _
        refine x_A k231_989 (fun _ => rfl) ?_
        refine x_A k231_990 (fun _ => rfl) ?_
        refine x_A k231_991 (fun _ => rfl) ?_
        refine x_A k231_992 (fun _ => rfl) ?_
        refine x_A k231_993 (fun _ => rfl) ?_
        refine x_iadd k231_994 ?_
        refine x_top (fun z397 e_z397 => ?_)
        refine x_scr k231_995 hN ⟨by omega, by omega⟩ (fun z398 g_z398 e_z398 => ?_)
        unfold in32 at g_z398
        have q_z398 : z398 = z382 := by rw [e_z398, e_z382, show z397 = z381 by omega]
        refine x_A k231_996 (fun _ => rfl) ?_
        refine x_A k231_997 (fun _ => rfl) ?_
        refine x_A k231_998 (fun _ => rfl) ?_
        refine x_iadd k231_999 ?_
        refine x_top (fun z399 e_z399 => ?_)
        refine x_scr k231_1000 hN ⟨by omega, by omega⟩ (fun z400 g_z400 e_z400 => ?_)
        unfold in32 at g_z400
        have q_z400 : z400 = z384 := by rw [e_z400, e_z384, show z399 = z383 by omega]
        refine x_A k231_1001 (fun _ => rfl) ?_
        refine x_A k231_1002 (fun _ => rfl) ?_
        refine x_A k231_1003 (fun _ => rfl) ?_
        refine x_iadd k231_1004 ?_
        refine x_top (fun z401 e_z401 => ?_)
        refine x_scr k231_1005 hN ⟨by omega, by omega⟩ (fun z402 g_z402 e_z402 => ?_)
        unfold in32 at g_z402
        have q_z402 : z402 = z386 := by rw [e_z402, e_z386, show z401 = z385 by omega]
        refine x_A k231_1006 (fun _ => rfl) ?_
        refine x_A k231_1007 (fun _ => rfl) ?_
        refine x_A k231_1008 (fun _ => rfl) ?_
        refine x_iadd k231_1009 ?_
        refine x_top (fun z403 e_z403 => ?_)
        refine x_scr k231_1010 hN ⟨by omega, by omega⟩ (fun z404 g_z404 e_z404 => ?_)
        unfold in32 at g_z404
        have q_z404 : z404 = z388 := by rw [e_z404, e_z388, show z403 = z387 by omega]
        refine x_A k231_1011 (fun _ => rfl) ?_
        refine x_A k231_1012 (fun _ => rfl) ?_
        refine x_A k231_1013 (fun _ => rfl) ?_
        refine x_iadd k231_1014 ?_
        refine x_top (fun z405 e_z405 => ?_)
        refine x_scr k231_1015 hN ⟨by omega, by omega⟩ (fun z406 g_z406 e_z406 => ?_)
        unfold in32 at g_z406
        have q_z406 : z406 = z390 := by rw [e_z406, e_z390, show z405 = z389 by omega]
        refine x_A k231_1016 (fun _ => rfl) ?_
        refine x_A k231_1017 (fun _ => rfl) ?_
        refine x_bipush k231_1018 (by decide +kernel) ?_
        refine x_iadd k231_1020 ?_
        refine x_top (fun z407 e_z407 => ?_)
        refine x_scr k231_1021 hN ⟨by omega, by omega⟩ (fun z408 g_z408 e_z408 => ?_)
        unfold in32 at g_z408
        have q_z408 : z408 = z392 := by rw [e_z408, e_z392, show z407 = z391 by omega]
        refine x_callV k231_1022 (y := 208) (n := 6) (w0 := 0) (w1 := 6) (as := [vi z398, vi z400, vi z402, vi z404, vi z406, vi z408]) (rest := []) (by decide +kernel) (q := 256) (nq := 62) (kq := 15) ⟨by decide, rfl⟩ rfl rfl rfl rfl (xe_mono (C_X11_together_256 s394 hG_s394 J_s394 z398 (by first | exact x_rbe e_z398 g_z398 rfl rfl | exact x_rb g_z398 rfl rfl | exact ⟨by omega, by omega⟩) z400 (by first | exact x_rbe e_z400 g_z400 rfl rfl | exact x_rb g_z400 rfl rfl | exact ⟨by omega, by omega⟩) z402 (by first | exact x_rbe e_z402 g_z402 rfl rfl | exact x_rb g_z402 rfl rfl | exact ⟨by omega, by omega⟩) z404 (by first | exact x_rbe e_z404 g_z404 rfl rfl | exact x_rb g_z404 rfl rfl | exact ⟨by omega, by omega⟩) z406 (by first | exact x_rbe e_z406 g_z406 rfl rfl | exact x_rb g_z406 rfl rfl | exact ⟨by omega, by omega⟩) z408 (by first | exact x_rbe e_z408 g_z408 rfl rfl | exact x_rb g_z408 rfl rfl | exact ⟨by omega, by omega⟩)) ?_)
        rintro s410 v ⟨hG_s410, t_s410, z409, rfl, g_z409⟩
        have q411 : s410 46 3 = x1000 := (t_s410 46 3 (show 452 ∉ [5312, 5376, 4123, 5440, 5504, 5568, 5632, 5696, 5760, 4150, 4151, 4152, 4153] from by decide +kernel)).trans q395
        have q412 : s410 256 6 = x1001 := (t_s410 256 6 (show 4103 ∉ [5312, 5376, 4123, 5440, 5504, 5568, 5632, 5696, 5760, 4150, 4151, 4152, 4153] from by decide +kernel)).trans q396
        have J_s410 : J s410 := J.fl J_s394 t_s410 (by decide +kernel)
        show xe (some (N, xs)) 231 1025 [(0, .ref 2000), (1, .ref 0), (2, .ref 256), (3, vi x3)] [vi z409] s410 295 10442 _
        refine x_A k231_1025 (fun _ => rfl) ?_
        refine x_goto k231_1026 (t := 1300) rfl ?_
        refine x_iinc k231_1300 (ls' := [(3, vi (x3 + 7)), (0, .ref 2000), (1, .ref 0), (2, .ref 256)]) rfl (by decide) rfl ?_
        refine x_goto k231_1303 (t := 18) rfl ?_
        refine x_ls (l := [(0, .ref 2000), (1, .ref 0), (2, .ref 256), (3, vi (x3 + 7))]) (show ([0, 1, 2, 3] : List Nat).Nodup from by decide +kernel) ⟨rfl, rfl, rfl, rfl, trivial⟩ ?_
        exact ih s410 (x3 + 7) x1000 x1001 hG_s410 trivial ⟨by omega, by omega⟩ (by first | exact x_rb b_x1000 rfl rfl | exact ⟨by omega, by omega⟩) (by first | exact x_rb b_x1001 rfl rfl | exact ⟨by omega, by omega⟩) (by omega) (q411).symm (q412).symm J_s410  (by omega)
      · rw [c5]
        refine x_B k231_33 rfl (fun _ => rfl) (fun _ => rfl) (fun _ _ => rfl) ?_
        show xe (some (N, xs)) 231 1029 [(0, .ref 2000), (1, .ref 0), (2, .ref 256), (3, vi x3)] [] s 295 10442 _
        refine x_A k231_1029 (fun _ => rfl) ?_
        refine x_A k231_1030 (fun _ => rfl) ?_
        refine x_A k231_1031 (fun _ => rfl) ?_
        refine x_A k231_1032 (fun _ => rfl) ?_
        refine x_iadd k231_1033 ?_
        refine x_top (fun z413 e_z413 => ?_)
        refine x_scr k231_1034 hN ⟨by omega, by omega⟩ (fun z414 g_z414 e_z414 => ?_)
        unfold in32 at g_z414
        refine x_A k231_1035 (fun _ => rfl) ?_
        refine x_A k231_1036 (fun _ => rfl) ?_
        refine x_A k231_1037 (fun _ => rfl) ?_
        refine x_iadd k231_1038 ?_
        refine x_top (fun z415 e_z415 => ?_)
        refine x_scr k231_1039 hN ⟨by omega, by omega⟩ (fun z416 g_z416 e_z416 => ?_)
        unfold in32 at g_z416
        refine x_A k231_1040 (fun _ => rfl) ?_
        refine x_A k231_1041 (fun _ => rfl) ?_
        refine x_A k231_1042 (fun _ => rfl) ?_
        refine x_iadd k231_1043 ?_
        refine x_top (fun z417 e_z417 => ?_)
        refine x_scr k231_1044 hN ⟨by omega, by omega⟩ (fun z418 g_z418 e_z418 => ?_)
        unfold in32 at g_z418
        refine x_callV k231_1045 (y := 114) (n := 3) (w0 := 0) (w1 := 3) (as := [vi z414, vi z416, vi z418]) (rest := []) (by decide +kernel) (q := 0) (nq := 12) (kq := 3) ⟨by decide, rfl⟩ rfl rfl rfl rfl (xe_mono (C_X10_along_0 s hG i_J z414 (by first | exact x_rbe e_z414 g_z414 rfl rfl | exact x_rb g_z414 rfl rfl | exact ⟨by omega, by omega⟩) z416 (by first | exact x_rbe e_z416 g_z416 rfl rfl | exact x_rb g_z416 rfl rfl | exact ⟨by omega, by omega⟩) z418 (by first | exact x_rbe e_z418 g_z418 rfl rfl | exact x_rb g_z418 rfl rfl | exact ⟨by omega, by omega⟩)) ?_)
        rintro s420 v ⟨hG_s420, t_s420, z419, rfl, g_z419⟩
        have q421 : s420 46 3 = x1000 := (t_s420 46 3 (show 452 ∉ [3329, 3334, 3335, 3336, 3392, 3456, 3520, 3584, 3276, 3648, 3712, 3776, 3840, 3904, 3968, 3277, 4032] from by decide +kernel)).trans e_x1000.symm
        have q422 : s420 256 6 = x1001 := (t_s420 256 6 (show 4103 ∉ [3329, 3334, 3335, 3336, 3392, 3456, 3520, 3584, 3276, 3648, 3712, 3776, 3840, 3904, 3968, 3277, 4032] from by decide +kernel)).trans e_x1001.symm
        have J_s420 : J s420 := J.fl i_J t_s420 (by decide +kernel)
        show xe (some (N, xs)) 231 1048 [(0, .ref 2000), (1, .ref 0), (2, .ref 256), (3, vi x3)] [vi z419] s420 295 10442 _
        refine x_A k231_1048 (fun _ => rfl) ?_
        refine x_A k231_1049 (fun _ => rfl) ?_
        refine x_A k231_1050 (fun _ => rfl) ?_
        refine x_A k231_1051 (fun _ => rfl) ?_
        refine x_A k231_1052 (fun _ => rfl) ?_
        refine x_iadd k231_1053 ?_
        refine x_top (fun z423 e_z423 => ?_)
        refine x_scr k231_1054 hN ⟨by omega, by omega⟩ (fun z424 g_z424 e_z424 => ?_)
        unfold in32 at g_z424
        have q_z424 : z424 = z414 := by rw [e_z424, e_z414, show z423 = z413 by omega]
        refine x_A k231_1055 (fun _ => rfl) ?_
        refine x_A k231_1056 (fun _ => rfl) ?_
        refine x_A k231_1057 (fun _ => rfl) ?_
        refine x_iadd k231_1058 ?_
        refine x_top (fun z425 e_z425 => ?_)
        refine x_scr k231_1059 hN ⟨by omega, by omega⟩ (fun z426 g_z426 e_z426 => ?_)
        unfold in32 at g_z426
        have q_z426 : z426 = z416 := by rw [e_z426, e_z416, show z425 = z415 by omega]
        refine x_A k231_1060 (fun _ => rfl) ?_
        refine x_A k231_1061 (fun _ => rfl) ?_
        refine x_A k231_1062 (fun _ => rfl) ?_
        refine x_iadd k231_1063 ?_
        refine x_top (fun z427 e_z427 => ?_)
        refine x_scr k231_1064 hN ⟨by omega, by omega⟩ (fun z428 g_z428 e_z428 => ?_)
        unfold in32 at g_z428
        have q_z428 : z428 = z418 := by rw [e_z428, e_z418, show z427 = z417 by omega]
        refine x_callV k231_1065 (y := 211) (n := 3) (w0 := 0) (w1 := 3) (as := [vi z424, vi z426, vi z428]) (rest := []) (by decide +kernel) (q := 256) (nq := 62) (kq := 15) ⟨by decide, rfl⟩ rfl rfl rfl rfl (xe_mono (C_X11_along_256 s420 hG_s420 J_s420 z424 (by first | exact x_rbe e_z424 g_z424 rfl rfl | exact x_rb g_z424 rfl rfl | exact ⟨by omega, by omega⟩) z426 (by first | exact x_rbe e_z426 g_z426 rfl rfl | exact x_rb g_z426 rfl rfl | exact ⟨by omega, by omega⟩) z428 (by first | exact x_rbe e_z428 g_z428 rfl rfl | exact x_rb g_z428 rfl rfl | exact ⟨by omega, by omega⟩)) ?_)
        rintro s430 v ⟨hG_s430, t_s430, z429, rfl, g_z429⟩
        have q431 : s430 46 3 = x1000 := (t_s430 46 3 (show 452 ∉ [5312, 5376, 4123, 5440, 5504, 5568, 5632, 5696, 5760, 4150, 4151, 4152, 4153] from by decide +kernel)).trans q421
        have q432 : s430 256 6 = x1001 := (t_s430 256 6 (show 4103 ∉ [5312, 5376, 4123, 5440, 5504, 5568, 5632, 5696, 5760, 4150, 4151, 4152, 4153] from by decide +kernel)).trans q422
        have J_s430 : J s430 := J.fl J_s420 t_s430 (by decide +kernel)
        show xe (some (N, xs)) 231 1068 [(0, .ref 2000), (1, .ref 0), (2, .ref 256), (3, vi x3)] [vi z429] s430 295 10442 _
        refine x_A k231_1068 (fun _ => rfl) ?_
        refine x_goto k231_1069 (t := 1300) rfl ?_
        refine x_iinc k231_1300 (ls' := [(3, vi (x3 + 7)), (0, .ref 2000), (1, .ref 0), (2, .ref 256)]) rfl (by decide) rfl ?_
        refine x_goto k231_1303 (t := 18) rfl ?_
        refine x_ls (l := [(0, .ref 2000), (1, .ref 0), (2, .ref 256), (3, vi (x3 + 7))]) (show ([0, 1, 2, 3] : List Nat).Nodup from by decide +kernel) ⟨rfl, rfl, rfl, rfl, trivial⟩ ?_
        exact ih s430 (x3 + 7) x1000 x1001 hG_s430 trivial ⟨by omega, by omega⟩ (by first | exact x_rb b_x1000 rfl rfl | exact ⟨by omega, by omega⟩) (by first | exact x_rb b_x1001 rfl rfl | exact ⟨by omega, by omega⟩) (by omega) (q431).symm (q432).symm J_s430  (by omega)
      · rw [c5]
        refine x_B k231_33 rfl (fun _ => rfl) (fun _ => rfl) (fun _ _ => rfl) ?_
        show xe (some (N, xs)) 231 1072 [(0, .ref 2000), (1, .ref 0), (2, .ref 256), (3, vi x3)] [] s 295 10442 _
        refine x_A k231_1072 (fun _ => rfl) ?_
        refine x_A k231_1073 (fun _ => rfl) ?_
        refine x_A k231_1074 (fun _ => rfl) ?_
        refine x_A k231_1075 (fun _ => rfl) ?_
        refine x_iadd k231_1076 ?_
        refine x_top (fun z433 e_z433 => ?_)
        refine x_scr k231_1077 hN ⟨by omega, by omega⟩ (fun z434 g_z434 e_z434 => ?_)
        unfold in32 at g_z434
        refine x_A k231_1078 (fun _ => rfl) ?_
        refine x_A k231_1079 (fun _ => rfl) ?_
        refine x_A k231_1080 (fun _ => rfl) ?_
        refine x_iadd k231_1081 ?_
        refine x_top (fun z435 e_z435 => ?_)
        refine x_scr k231_1082 hN ⟨by omega, by omega⟩ (fun z436 g_z436 e_z436 => ?_)
        unfold in32 at g_z436
        refine x_A k231_1083 (fun _ => rfl) ?_
        refine x_A k231_1084 (fun _ => rfl) ?_
        refine x_A k231_1085 (fun _ => rfl) ?_
        refine x_iadd k231_1086 ?_
        refine x_top (fun z437 e_z437 => ?_)
        refine x_scr k231_1087 hN ⟨by omega, by omega⟩ (fun z438 g_z438 e_z438 => ?_)
        unfold in32 at g_z438
        refine x_callV k231_1088 (y := 115) (n := 3) (w0 := 0) (w1 := 3) (as := [vi z434, vi z436, vi z438]) (rest := []) (by decide +kernel) (q := 0) (nq := 12) (kq := 3) ⟨by decide, rfl⟩ rfl rfl rfl rfl (xe_mono (C_X10_likely_0 s hG i_J z434 (by first | exact x_rbe e_z434 g_z434 rfl rfl | exact x_rb g_z434 rfl rfl | exact ⟨by omega, by omega⟩) z436 (by first | exact x_rbe e_z436 g_z436 rfl rfl | exact x_rb g_z436 rfl rfl | exact ⟨by omega, by omega⟩) z438 (by first | exact x_rbe e_z438 g_z438 rfl rfl | exact x_rb g_z438 rfl rfl | exact ⟨by omega, by omega⟩)) ?_)
        rintro s440 v ⟨hG_s440, t_s440, z439, rfl, g_z439⟩
        have q441 : s440 46 3 = x1000 := (t_s440 46 3 (show 452 ∉ [3329, 3334, 3335, 3336, 3392, 3456, 3520, 3584, 3276, 3648, 3712, 3776, 3840, 3904, 3968, 3277, 4032] from by decide +kernel)).trans e_x1000.symm
        have q442 : s440 256 6 = x1001 := (t_s440 256 6 (show 4103 ∉ [3329, 3334, 3335, 3336, 3392, 3456, 3520, 3584, 3276, 3648, 3712, 3776, 3840, 3904, 3968, 3277, 4032] from by decide +kernel)).trans e_x1001.symm
        have J_s440 : J s440 := J.fl i_J t_s440 (by decide +kernel)
        show xe (some (N, xs)) 231 1091 [(0, .ref 2000), (1, .ref 0), (2, .ref 256), (3, vi x3)] [vi z439] s440 295 10442 _
        refine x_A k231_1091 (fun _ => rfl) ?_
        refine x_A k231_1092 (fun _ => rfl) ?_
        refine x_A k231_1093 (fun _ => rfl) ?_
        refine x_A k231_1094 (fun _ => rfl) ?_
        refine x_A k231_1095 (fun _ => rfl) ?_
        refine x_iadd k231_1096 ?_
        refine x_top (fun z443 e_z443 => ?_)
        refine x_scr k231_1097 hN ⟨by omega, by omega⟩ (fun z444 g_z444 e_z444 => ?_)
        unfold in32 at g_z444
        have q_z444 : z444 = z434 := by rw [e_z444, e_z434, show z443 = z433 by omega]
        refine x_A k231_1098 (fun _ => rfl) ?_
        refine x_A k231_1099 (fun _ => rfl) ?_
        refine x_A k231_1100 (fun _ => rfl) ?_
        refine x_iadd k231_1101 ?_
        refine x_top (fun z445 e_z445 => ?_)
        refine x_scr k231_1102 hN ⟨by omega, by omega⟩ (fun z446 g_z446 e_z446 => ?_)
        unfold in32 at g_z446
        have q_z446 : z446 = z436 := by rw [e_z446, e_z436, show z445 = z435 by omega]
        refine x_A k231_1103 (fun _ => rfl) ?_
        refine x_A k231_1104 (fun _ => rfl) ?_
        refine x_A k231_1105 (fun _ => rfl) ?_
        refine x_iadd k231_1106 ?_
        refine x_top (fun z447 e_z447 => ?_)
        refine x_scr k231_1107 hN ⟨by omega, by omega⟩ (fun z448 g_z448 e_z448 => ?_)
        unfold in32 at g_z448
        have q_z448 : z448 = z438 := by rw [e_z448, e_z438, show z447 = z437 by omega]
        refine x_callV k231_1108 (y := 212) (n := 3) (w0 := 0) (w1 := 3) (as := [vi z444, vi z446, vi z448]) (rest := []) (by decide +kernel) (q := 256) (nq := 62) (kq := 15) ⟨by decide, rfl⟩ rfl rfl rfl rfl (xe_mono (C_X11_likely_256 s440 hG_s440 J_s440 z444 (by first | exact x_rbe e_z444 g_z444 rfl rfl | exact x_rb g_z444 rfl rfl | exact ⟨by omega, by omega⟩) z446 (by first | exact x_rbe e_z446 g_z446 rfl rfl | exact x_rb g_z446 rfl rfl | exact ⟨by omega, by omega⟩) z448 (by first | exact x_rbe e_z448 g_z448 rfl rfl | exact x_rb g_z448 rfl rfl | exact ⟨by omega, by omega⟩)) ?_)
        rintro s450 v ⟨hG_s450, t_s450, z449, rfl, g_z449⟩
        have q451 : s450 46 3 = x1000 := (t_s450 46 3 (show 452 ∉ [5312, 5376, 4123, 5440, 5504, 5568, 5632, 5696, 5760, 4150, 4151, 4152, 4153, 6336] from by decide +kernel)).trans q441
        have q452 : s450 256 6 = x1001 := (t_s450 256 6 (show 4103 ∉ [5312, 5376, 4123, 5440, 5504, 5568, 5632, 5696, 5760, 4150, 4151, 4152, 4153, 6336] from by decide +kernel)).trans q442
        have J_s450 : J s450 := J.fl J_s440 t_s450 (by decide +kernel)
        show xe (some (N, xs)) 231 1111 [(0, .ref 2000), (1, .ref 0), (2, .ref 256), (3, vi x3)] [vi z449] s450 295 10442 _
        refine x_A k231_1111 (fun _ => rfl) ?_
        refine x_goto k231_1112 (t := 1300) rfl ?_
        refine x_iinc k231_1300 (ls' := [(3, vi (x3 + 7)), (0, .ref 2000), (1, .ref 0), (2, .ref 256)]) rfl (by decide) rfl ?_
        refine x_goto k231_1303 (t := 18) rfl ?_
        refine x_ls (l := [(0, .ref 2000), (1, .ref 0), (2, .ref 256), (3, vi (x3 + 7))]) (show ([0, 1, 2, 3] : List Nat).Nodup from by decide +kernel) ⟨rfl, rfl, rfl, rfl, trivial⟩ ?_
        exact ih s450 (x3 + 7) x1000 x1001 hG_s450 trivial ⟨by omega, by omega⟩ (by first | exact x_rb b_x1000 rfl rfl | exact ⟨by omega, by omega⟩) (by first | exact x_rb b_x1001 rfl rfl | exact ⟨by omega, by omega⟩) (by omega) (q451).symm (q452).symm J_s450  (by omega)
      · rw [c5]
        refine x_B k231_33 rfl (fun _ => rfl) (fun _ => rfl) (fun _ _ => rfl) ?_
        show xe (some (N, xs)) 231 1115 [(0, .ref 2000), (1, .ref 0), (2, .ref 256), (3, vi x3)] [] s 295 10442 _
        refine x_A k231_1115 (fun _ => rfl) ?_
        refine x_A k231_1116 (fun _ => rfl) ?_
        refine x_A k231_1117 (fun _ => rfl) ?_
        refine x_A k231_1118 (fun _ => rfl) ?_
        refine x_iadd k231_1119 ?_
        refine x_top (fun z453 e_z453 => ?_)
        refine x_scr k231_1120 hN ⟨by omega, by omega⟩ (fun z454 g_z454 e_z454 => ?_)
        unfold in32 at g_z454
        refine x_A k231_1121 (fun _ => rfl) ?_
        refine x_A k231_1122 (fun _ => rfl) ?_
        refine x_A k231_1123 (fun _ => rfl) ?_
        refine x_iadd k231_1124 ?_
        refine x_top (fun z455 e_z455 => ?_)
        refine x_scr k231_1125 hN ⟨by omega, by omega⟩ (fun z456 g_z456 e_z456 => ?_)
        unfold in32 at g_z456
        refine x_callV k231_1126 (y := 116) (n := 2) (w0 := 0) (w1 := 2) (as := [vi z454, vi z456]) (rest := []) (by decide +kernel) (q := 0) (nq := 12) (kq := 3) ⟨by decide, rfl⟩ rfl rfl rfl rfl (xe_mono (C_X10_lacking_0 s hG i_J z454 (by first | exact x_rbe e_z454 g_z454 rfl rfl | exact x_rb g_z454 rfl rfl | exact ⟨by omega, by omega⟩) z456 (by first | exact x_rbe e_z456 g_z456 rfl rfl | exact x_rb g_z456 rfl rfl | exact ⟨by omega, by omega⟩)) ?_)
        rintro s458 v ⟨hG_s458, t_s458, z457, rfl, b_z457⟩
        have q459 : s458 46 3 = x1000 := (t_s458 46 3 (show 452 ∉ [3329, 3334, 3335, 3336, 3392, 3456, 3520, 3584, 3276, 3648, 3712, 3776, 3840, 3904, 3968, 3277, 4032] from by decide +kernel)).trans e_x1000.symm
        have q460 : s458 256 6 = x1001 := (t_s458 256 6 (show 4103 ∉ [3329, 3334, 3335, 3336, 3392, 3456, 3520, 3584, 3276, 3648, 3712, 3776, 3840, 3904, 3968, 3277, 4032] from by decide +kernel)).trans e_x1001.symm
        have J_s458 : J s458 := J.fl i_J t_s458 (by decide +kernel)
        show xe (some (N, xs)) 231 1129 [(0, .ref 2000), (1, .ref 0), (2, .ref 256), (3, vi x3)] [vj z457] s458 295 10442 _
        refine x_A k231_1129 (fun _ => rfl) ?_
        refine x_A k231_1130 (fun _ => rfl) ?_
        refine x_A k231_1131 (fun _ => rfl) ?_
        refine x_A k231_1132 (fun _ => rfl) ?_
        refine x_A k231_1133 (fun _ => rfl) ?_
        refine x_iadd k231_1134 ?_
        refine x_top (fun z461 e_z461 => ?_)
        refine x_scr k231_1135 hN ⟨by omega, by omega⟩ (fun z462 g_z462 e_z462 => ?_)
        unfold in32 at g_z462
        have q_z462 : z462 = z454 := by rw [e_z462, e_z454, show z461 = z453 by omega]
        refine x_A k231_1136 (fun _ => rfl) ?_
        refine x_A k231_1137 (fun _ => rfl) ?_
        refine x_A k231_1138 (fun _ => rfl) ?_
        refine x_iadd k231_1139 ?_
        refine x_top (fun z463 e_z463 => ?_)
        refine x_scr k231_1140 hN ⟨by omega, by omega⟩ (fun z464 g_z464 e_z464 => ?_)
        unfold in32 at g_z464
        have q_z464 : z464 = z456 := by rw [e_z464, e_z456, show z463 = z455 by omega]
        refine x_callV k231_1141 (y := 214) (n := 2) (w0 := 0) (w1 := 2) (as := [vi z462, vi z464]) (rest := []) (by decide +kernel) (q := 256) (nq := 62) (kq := 15) ⟨by decide, rfl⟩ rfl rfl rfl rfl (xe_mono (C_X11_lacking_256 s458 hG_s458 J_s458 z462 (by first | exact x_rbe e_z462 g_z462 rfl rfl | exact x_rb g_z462 rfl rfl | exact ⟨by omega, by omega⟩) z464 (by first | exact x_rbe e_z464 g_z464 rfl rfl | exact x_rb g_z464 rfl rfl | exact ⟨by omega, by omega⟩)) ?_)
        rintro s466 v ⟨hG_s466, t_s466, z465, rfl, b_z465⟩
        have q467 : s466 46 3 = x1000 := (t_s466 46 3 (show 452 ∉ [5312, 5376, 4123, 5440, 5504, 5568, 5632, 5696, 5760] from by decide +kernel)).trans q459
        have q468 : s466 256 6 = x1001 := (t_s466 256 6 (show 4103 ∉ [5312, 5376, 4123, 5440, 5504, 5568, 5632, 5696, 5760] from by decide +kernel)).trans q460
        have J_s466 : J s466 := J.fl J_s458 t_s466 (by decide +kernel)
        show xe (some (N, xs)) 231 1144 [(0, .ref 2000), (1, .ref 0), (2, .ref 256), (3, vi x3)] [vj z465] s466 295 10442 _
        refine x_A k231_1144 (fun _ => rfl) ?_
        refine x_goto k231_1145 (t := 1300) rfl ?_
        refine x_iinc k231_1300 (ls' := [(3, vi (x3 + 7)), (0, .ref 2000), (1, .ref 0), (2, .ref 256)]) rfl (by decide) rfl ?_
        refine x_goto k231_1303 (t := 18) rfl ?_
        refine x_ls (l := [(0, .ref 2000), (1, .ref 0), (2, .ref 256), (3, vi (x3 + 7))]) (show ([0, 1, 2, 3] : List Nat).Nodup from by decide +kernel) ⟨rfl, rfl, rfl, rfl, trivial⟩ ?_
        exact ih s466 (x3 + 7) x1000 x1001 hG_s466 trivial ⟨by omega, by omega⟩ (by first | exact x_rb b_x1000 rfl rfl | exact ⟨by omega, by omega⟩) (by first | exact x_rb b_x1001 rfl rfl | exact ⟨by omega, by omega⟩) (by omega) (q467).symm (q468).symm J_s466  (by omega)
      · rw [c5]
        refine x_B k231_33 rfl (fun _ => rfl) (fun _ => rfl) (fun _ _ => rfl) ?_
        show xe (some (N, xs)) 231 1148 [(0, .ref 2000), (1, .ref 0), (2, .ref 256), (3, vi x3)] [] s 295 10442 _
        refine x_A k231_1148 (fun _ => rfl) ?_
        refine x_callV k231_1149 (y := 117) (n := 0) (w0 := 0) (w1 := 0) (as := []) (rest := []) (by decide +kernel) (q := 0) (nq := 12) (kq := 3) ⟨by decide, rfl⟩ rfl rfl rfl rfl (xe_mono (C_X10_story_0 s hG) ?_)
        rintro s470 v ⟨hG_s470, t_s470, z469, rfl, g_z469⟩
        have q471 : s470 46 3 = x1000 := (t_s470 46 3 (show 452 ∉ [2884] from by decide +kernel)).trans e_x1000.symm
        have q472 : s470 256 6 = x1001 := (t_s470 256 6 (show 4103 ∉ [2884] from by decide +kernel)).trans e_x1001.symm
        have J_s470 : J s470 := J.fl i_J t_s470 (by decide +kernel)
        show xe (some (N, xs)) 231 1152 [(0, .ref 2000), (1, .ref 0), (2, .ref 256), (3, vi x3)] [vi z469] s470 295 10442 _
        refine x_A k231_1152 (fun _ => rfl) ?_
        refine x_A k231_1153 (fun _ => rfl) ?_
        refine x_callV k231_1154 (y := 215) (n := 0) (w0 := 0) (w1 := 0) (as := []) (rest := []) (by decide +kernel) (q := 256) (nq := 62) (kq := 15) ⟨by decide, rfl⟩ rfl rfl rfl rfl (xe_mono (C_X11_story_256 s470 hG_s470) ?_)
        rintro s474 v ⟨hG_s474, t_s474, z473, rfl, g_z473⟩
        have q475 : s474 46 3 = x1000 := (t_s474 46 3 (show 452 ∉ [4155, 6400] from by decide +kernel)).trans q471
        have q476 : s474 256 6 = x1001 := (t_s474 256 6 (show 4103 ∉ [4155, 6400] from by decide +kernel)).trans q472
        have J_s474 : J s474 := J.fl J_s470 t_s474 (by decide +kernel)
        show xe (some (N, xs)) 231 1157 [(0, .ref 2000), (1, .ref 0), (2, .ref 256), (3, vi x3)] [vi z473] s474 295 10442 _
        refine x_A k231_1157 (fun _ => rfl) ?_
        refine x_goto k231_1158 (t := 1300) rfl ?_
        refine x_iinc k231_1300 (ls' := [(3, vi (x3 + 7)), (0, .ref 2000), (1, .ref 0), (2, .ref 256)]) rfl (by decide) rfl ?_
        refine x_goto k231_1303 (t := 18) rfl ?_
        refine x_ls (l := [(0, .ref 2000), (1, .ref 0), (2, .ref 256), (3, vi (x3 + 7))]) (show ([0, 1, 2, 3] : List Nat).Nodup from by decide +kernel) ⟨rfl, rfl, rfl, rfl, trivial⟩ ?_
        exact ih s474 (x3 + 7) x1000 x1001 hG_s474 trivial ⟨by omega, by omega⟩ (by first | exact x_rb b_x1000 rfl rfl | exact ⟨by omega, by omega⟩) (by first | exact x_rb b_x1001 rfl rfl | exact ⟨by omega, by omega⟩) (by omega) (q475).symm (q476).symm J_s474  (by omega)
      · rw [c5]
        refine x_B k231_33 rfl (fun _ => rfl) (fun _ => rfl) (fun _ _ => rfl) ?_
        show xe (some (N, xs)) 231 1161 [(0, .ref 2000), (1, .ref 0), (2, .ref 256), (3, vi x3)] [] s 295 10442 _
        refine x_A k231_1161 (fun _ => rfl) ?_
        refine x_A k231_1162 (fun _ => rfl) ?_
        refine x_A k231_1163 (fun _ => rfl) ?_
        refine x_A k231_1164 (fun _ => rfl) ?_
        refine x_iadd k231_1165 ?_
        refine x_top (fun z477 e_z477 => ?_)
        refine x_scr k231_1166 hN ⟨by omega, by omega⟩ (fun z478 g_z478 e_z478 => ?_)
        unfold in32 at g_z478
        refine x_A k231_1167 (fun _ => rfl) ?_
        refine x_A k231_1168 (fun _ => rfl) ?_
        refine x_A k231_1169 (fun _ => rfl) ?_
        refine x_iadd k231_1170 ?_
        refine x_top (fun z479 e_z479 => ?_)
        refine x_scr k231_1171 hN ⟨by omega, by omega⟩ (fun z480 g_z480 e_z480 => ?_)
        unfold in32 at g_z480
        refine x_A k231_1172 (fun _ => rfl) ?_
        refine x_A k231_1173 (fun _ => rfl) ?_
        refine x_A k231_1174 (fun _ => rfl) ?_
        refine x_iadd k231_1175 ?_
        refine x_top (fun z481 e_z481 => ?_)
        refine x_scr k231_1176 hN ⟨by omega, by omega⟩ (fun z482 g_z482 e_z482 => ?_)
        unfold in32 at g_z482
        refine x_callV k231_1177 (y := 118) (n := 3) (w0 := 0) (w1 := 3) (as := [vi z478, vi z480, vi z482]) (rest := []) (by decide +kernel) (q := 0) (nq := 12) (kq := 3) ⟨by decide, rfl⟩ rfl rfl rfl rfl (xe_mono (C_X10_moment_0 s hG z478 (by first | exact x_rbe e_z478 g_z478 rfl rfl | exact x_rb g_z478 rfl rfl | exact ⟨by omega, by omega⟩) z480 (by first | exact x_rbe e_z480 g_z480 rfl rfl | exact x_rb g_z480 rfl rfl | exact ⟨by omega, by omega⟩) z482 (by first | exact x_rbe e_z482 g_z482 rfl rfl | exact x_rb g_z482 rfl rfl | exact ⟨by omega, by omega⟩)) ?_)
        rintro s484 v ⟨hG_s484, t_s484, z483, rfl, g_z483⟩
        have q485 : s484 46 3 = x1000 := (t_s484 46 3 (show 452 ∉ [2944, 3072, 3200] from by decide +kernel)).trans e_x1000.symm
        have q486 : s484 256 6 = x1001 := (t_s484 256 6 (show 4103 ∉ [2944, 3072, 3200] from by decide +kernel)).trans e_x1001.symm
        have J_s484 : J s484 := J.fl i_J t_s484 (by decide +kernel)
        show xe (some (N, xs)) 231 1180 [(0, .ref 2000), (1, .ref 0), (2, .ref 256), (3, vi x3)] [vi z483] s484 295 10442 _
        refine x_A k231_1180 (fun _ => rfl) ?_
        refine x_A k231_1181 (fun _ => rfl) ?_
        refine x_A k231_1182 (fun _ => rfl) ?_
        refine x_A k231_1183 (fun _ => rfl) ?_
        refine x_A k231_1184 (fun _ => rfl) ?_
        refine x_iadd k231_1185 ?_
        refine x_top (fun z487 e_z487 => ?_)
        refine x_scr k231_1186 hN ⟨by omega, by omega⟩ (fun z488 g_z488 e_z488 => ?_)
        unfold in32 at g_z488
        have q_z488 : z488 = z478 := by rw [e_z488, e_z478, show z487 = z477 by omega]
        refine x_A k231_1187 (fun _ => rfl) ?_
        refine x_A k231_1188 (fun _ => rfl) ?_
        refine x_A k231_1189 (fun _ => rfl) ?_
        refine x_iadd k231_1190 ?_
        refine x_top (fun z489 e_z489 => ?_)
        refine x_scr k231_1191 hN ⟨by omega, by omega⟩ (fun z490 g_z490 e_z490 => ?_)
        unfold in32 at g_z490
        have q_z490 : z490 = z480 := by rw [e_z490, e_z480, show z489 = z479 by omega]
        refine x_A k231_1192 (fun _ => rfl) ?_
        refine x_A k231_1193 (fun _ => rfl) ?_
        refine x_A k231_1194 (fun _ => rfl) ?_
        refine x_iadd k231_1195 ?_
        refine x_top (fun z491 e_z491 => ?_)
        refine x_scr k231_1196 hN ⟨by omega, by omega⟩ (fun z492 g_z492 e_z492 => ?_)
        unfold in32 at g_z492
        have q_z492 : z492 = z482 := by rw [e_z492, e_z482, show z491 = z481 by omega]
        refine x_callV k231_1197 (y := 216) (n := 3) (w0 := 0) (w1 := 3) (as := [vi z488, vi z490, vi z492]) (rest := []) (by decide +kernel) (q := 256) (nq := 62) (kq := 15) ⟨by decide, rfl⟩ rfl rfl rfl rfl (xe_mono (C_X11_moment_256 s484 hG_s484 z488 (by first | exact x_rbe e_z488 g_z488 rfl rfl | exact x_rb g_z488 rfl rfl | exact ⟨by omega, by omega⟩) z490 (by first | exact x_rbe e_z490 g_z490 rfl rfl | exact x_rb g_z490 rfl rfl | exact ⟨by omega, by omega⟩) z492 (by first | exact x_rbe e_z492 g_z492 rfl rfl | exact x_rb g_z492 rfl rfl | exact ⟨by omega, by omega⟩)) ?_)
        rintro s494 v ⟨hG_s494, t_s494, z493, rfl, g_z493⟩
        have q495 : s494 46 3 = x1000 := (t_s494 46 3 (show 452 ∉ [6400, 6464, 6528] from by decide +kernel)).trans q485
        have q496 : s494 256 6 = x1001 := (t_s494 256 6 (show 4103 ∉ [6400, 6464, 6528] from by decide +kernel)).trans q486
        have J_s494 : J s494 := J.fl J_s484 t_s494 (by decide +kernel)
        show xe (some (N, xs)) 231 1200 [(0, .ref 2000), (1, .ref 0), (2, .ref 256), (3, vi x3)] [vi z493] s494 295 10442 _
        refine x_A k231_1200 (fun _ => rfl) ?_
        refine x_goto k231_1201 (t := 1300) rfl ?_
        refine x_iinc k231_1300 (ls' := [(3, vi (x3 + 7)), (0, .ref 2000), (1, .ref 0), (2, .ref 256)]) rfl (by decide) rfl ?_
        refine x_goto k231_1303 (t := 18) rfl ?_
        refine x_ls (l := [(0, .ref 2000), (1, .ref 0), (2, .ref 256), (3, vi (x3 + 7))]) (show ([0, 1, 2, 3] : List Nat).Nodup from by decide +kernel) ⟨rfl, rfl, rfl, rfl, trivial⟩ ?_
        exact ih s494 (x3 + 7) x1000 x1001 hG_s494 trivial ⟨by omega, by omega⟩ (by first | exact x_rb b_x1000 rfl rfl | exact ⟨by omega, by omega⟩) (by first | exact x_rb b_x1001 rfl rfl | exact ⟨by omega, by omega⟩) (by omega) (q495).symm (q496).symm J_s494  (by omega)
      · rw [c5]
        refine x_B k231_33 rfl (fun _ => rfl) (fun _ => rfl) (fun _ _ => rfl) ?_
        show xe (some (N, xs)) 231 1204 [(0, .ref 2000), (1, .ref 0), (2, .ref 256), (3, vi x3)] [] s 295 10442 _
        refine x_A k231_1204 (fun _ => rfl) ?_
        refine x_A k231_1205 (fun _ => rfl) ?_
        refine x_A k231_1206 (fun _ => rfl) ?_
        refine x_A k231_1207 (fun _ => rfl) ?_
        refine x_iadd k231_1208 ?_
        refine x_top (fun z497 e_z497 => ?_)
        refine x_scr k231_1209 hN ⟨by omega, by omega⟩ (fun z498 g_z498 e_z498 => ?_)
        unfold in32 at g_z498
        refine x_A k231_1210 (fun _ => rfl) ?_
        refine x_A k231_1211 (fun _ => rfl) ?_
        refine x_A k231_1212 (fun _ => rfl) ?_
        refine x_iadd k231_1213 ?_
        refine x_top (fun z499 e_z499 => ?_)
        refine x_scr k231_1214 hN ⟨by omega, by omega⟩ (fun z500 g_z500 e_z500 => ?_)
        unfold in32 at g_z500
        refine x_A k231_1215 (fun _ => rfl) ?_
        refine x_A k231_1216 (fun _ => rfl) ?_
        refine x_A k231_1217 (fun _ => rfl) ?_
        refine x_iadd k231_1218 ?_
        refine x_top (fun z501 e_z501 => ?_)
        refine x_scr k231_1219 hN ⟨by omega, by omega⟩ (fun z502 g_z502 e_z502 => ?_)
        unfold in32 at g_z502
        refine x_A k231_1220 (fun _ => rfl) ?_
        refine x_A k231_1221 (fun _ => rfl) ?_
        refine x_A k231_1222 (fun _ => rfl) ?_
        refine x_iadd k231_1223 ?_
        refine x_top (fun z503 e_z503 => ?_)
        refine x_scr k231_1224 hN ⟨by omega, by omega⟩ (fun z504 g_z504 e_z504 => ?_)
        unfold in32 at g_z504
        refine x_callV k231_1225 (y := 119) (n := 4) (w0 := 0) (w1 := 4) (as := [vi z498, vi z500, vi z502, vi z504]) (rest := []) (by decide +kernel) (q := 0) (nq := 12) (kq := 3) ⟨by decide, rfl⟩ rfl rfl rfl rfl (xe_mono (C_X10_of_0 s hG i_J z498 (by first | exact x_rbe e_z498 g_z498 rfl rfl | exact x_rb g_z498 rfl rfl | exact ⟨by omega, by omega⟩) z500 (by first | exact x_rbe e_z500 g_z500 rfl rfl | exact x_rb g_z500 rfl rfl | exact ⟨by omega, by omega⟩) z502 (by first | exact x_rbe e_z502 g_z502 rfl rfl | exact x_rb g_z502 rfl rfl | exact ⟨by omega, by omega⟩) z504 (by first | exact x_rbe e_z504 g_z504 rfl rfl | exact x_rb g_z504 rfl rfl | exact ⟨by omega, by omega⟩)) ?_)
        rintro s506 v ⟨hG_s506, t_s506, z505, rfl, g_z505⟩
        have q507 : s506 46 3 = x1000 := (t_s506 46 3 (show 452 ∉ [3329, 3334, 3335, 3336, 3392, 3456, 3520, 3584, 3276, 3648, 3712, 3776, 3840, 3904, 3968, 3277, 4032] from by decide +kernel)).trans e_x1000.symm
        have q508 : s506 256 6 = x1001 := (t_s506 256 6 (show 4103 ∉ [3329, 3334, 3335, 3336, 3392, 3456, 3520, 3584, 3276, 3648, 3712, 3776, 3840, 3904, 3968, 3277, 4032] from by decide +kernel)).trans e_x1001.symm
        have J_s506 : J s506 := J.fl i_J t_s506 (by decide +kernel)
        show xe (some (N, xs)) 231 1228 [(0, .ref 2000), (1, .ref 0), (2, .ref 256), (3, vi x3)] [vi z505] s506 295 10442 _
        refine x_A k231_1228 (fun _ => rfl) ?_
        refine x_A k231_1229 (fun _ => rfl) ?_
        refine x_A k231_1230 (fun _ => rfl) ?_
        refine x_A k231_1231 (fun _ => rfl) ?_
        refine x_A k231_1232 (fun _ => rfl) ?_
        refine x_iadd k231_1233 ?_
        refine x_top (fun z509 e_z509 => ?_)
        refine x_scr k231_1234 hN ⟨by omega, by omega⟩ (fun z510 g_z510 e_z510 => ?_)
        unfold in32 at g_z510
        have q_z510 : z510 = z498 := by rw [e_z510, e_z498, show z509 = z497 by omega]
        refine x_A k231_1235 (fun _ => rfl) ?_
        refine x_A k231_1236 (fun _ => rfl) ?_
        refine x_A k231_1237 (fun _ => rfl) ?_
        refine x_iadd k231_1238 ?_
        refine x_top (fun z511 e_z511 => ?_)
        refine x_scr k231_1239 hN ⟨by omega, by omega⟩ (fun z512 g_z512 e_z512 => ?_)
        unfold in32 at g_z512
        have q_z512 : z512 = z500 := by rw [e_z512, e_z500, show z511 = z499 by omega]
        refine x_A k231_1240 (fun _ => rfl) ?_
        refine x_A k231_1241 (fun _ => rfl) ?_
        refine x_A k231_1242 (fun _ => rfl) ?_
        refine x_iadd k231_1243 ?_
        refine x_top (fun z513 e_z513 => ?_)
        refine x_scr k231_1244 hN ⟨by omega, by omega⟩ (fun z514 g_z514 e_z514 => ?_)
        unfold in32 at g_z514
        have q_z514 : z514 = z502 := by rw [e_z514, e_z502, show z513 = z501 by omega]
        refine x_A k231_1245 (fun _ => rfl) ?_
        refine x_A k231_1246 (fun _ => rfl) ?_
        refine x_A k231_1247 (fun _ => rfl) ?_
        refine x_iadd k231_1248 ?_
        refine x_top (fun z515 e_z515 => ?_)
        refine x_scr k231_1249 hN ⟨by omega, by omega⟩ (fun z516 g_z516 e_z516 => ?_)
        unfold in32 at g_z516
        have q_z516 : z516 = z504 := by rw [e_z516, e_z504, show z515 = z503 by omega]
        refine x_callV k231_1250 (y := 217) (n := 4) (w0 := 0) (w1 := 4) (as := [vi z510, vi z512, vi z514, vi z516]) (rest := []) (by decide +kernel) (q := 256) (nq := 62) (kq := 15) ⟨by decide, rfl⟩ rfl rfl rfl rfl (xe_mono (C_X11_of_256 s506 hG_s506 J_s506 z510 (by first | exact x_rbe e_z510 g_z510 rfl rfl | exact x_rb g_z510 rfl rfl | exact ⟨by omega, by omega⟩) z512 (by first | exact x_rbe e_z512 g_z512 rfl rfl | exact x_rb g_z512 rfl rfl | exact ⟨by omega, by omega⟩) z514 (by first | exact x_rbe e_z514 g_z514 rfl rfl | exact x_rb g_z514 rfl rfl | exact ⟨by omega, by omega⟩) z516 (by first | exact x_rbe e_z516 g_z516 rfl rfl | exact x_rb g_z516 rfl rfl | exact ⟨by omega, by omega⟩)) ?_)
        rintro s518 v ⟨hG_s518, t_s518, z517, rfl, g_z517⟩
        have q519 : s518 46 3 = x1000 := (t_s518 46 3 (show 452 ∉ [5312, 5376, 4123, 5440, 5504, 5568, 5632, 5696, 5760] from by decide +kernel)).trans q507
        have q520 : s518 256 6 = x1001 := (t_s518 256 6 (show 4103 ∉ [5312, 5376, 4123, 5440, 5504, 5568, 5632, 5696, 5760] from by decide +kernel)).trans q508
        have J_s518 : J s518 := J.fl J_s506 t_s518 (by decide +kernel)
        show xe (some (N, xs)) 231 1253 [(0, .ref 2000), (1, .ref 0), (2, .ref 256), (3, vi x3)] [vi z517] s518 295 10442 _
        refine x_A k231_1253 (fun _ => rfl) ?_
        refine x_goto k231_1254 (t := 1300) rfl ?_
        refine x_iinc k231_1300 (ls' := [(3, vi (x3 + 7)), (0, .ref 2000), (1, .ref 0), (2, .ref 256)]) rfl (by decide) rfl ?_
        refine x_goto k231_1303 (t := 18) rfl ?_
        refine x_ls (l := [(0, .ref 2000), (1, .ref 0), (2, .ref 256), (3, vi (x3 + 7))]) (show ([0, 1, 2, 3] : List Nat).Nodup from by decide +kernel) ⟨rfl, rfl, rfl, rfl, trivial⟩ ?_
        exact ih s518 (x3 + 7) x1000 x1001 hG_s518 trivial ⟨by omega, by omega⟩ (by first | exact x_rb b_x1000 rfl rfl | exact ⟨by omega, by omega⟩) (by first | exact x_rb b_x1001 rfl rfl | exact ⟨by omega, by omega⟩) (by omega) (q519).symm (q520).symm J_s518  (by omega)
      · rw [c5]
        refine x_B k231_33 rfl (fun _ => rfl) (fun _ => rfl) (fun _ _ => rfl) ?_
        show xe (some (N, xs)) 231 1257 [(0, .ref 2000), (1, .ref 0), (2, .ref 256), (3, vi x3)] [] s 295 10442 _
        refine x_A k231_1257 (fun _ => rfl) ?_
        refine x_A k231_1258 (fun _ => rfl) ?_
        refine x_A k231_1259 (fun _ => rfl) ?_
        refine x_A k231_1260 (fun _ => rfl) ?_
        refine x_iadd k231_1261 ?_
        refine x_top (fun z521 e_z521 => ?_)
        refine x_scr k231_1262 hN ⟨by omega, by omega⟩ (fun z522 g_z522 e_z522 => ?_)
        unfold in32 at g_z522
        refine x_A k231_1263 (fun _ => rfl) ?_
        refine x_A k231_1264 (fun _ => rfl) ?_
        refine x_A k231_1265 (fun _ => rfl) ?_
        refine x_iadd k231_1266 ?_
        refine x_top (fun z523 e_z523 => ?_)
        refine x_scr k231_1267 hN ⟨by omega, by omega⟩ (fun z524 g_z524 e_z524 => ?_)
        unfold in32 at g_z524
        refine x_A k231_1268 (fun _ => rfl) ?_
        refine x_A k231_1269 (fun _ => rfl) ?_
        refine x_A k231_1270 (fun _ => rfl) ?_
        refine x_iadd k231_1271 ?_
        refine x_top (fun z525 e_z525 => ?_)
        refine x_scr k231_1272 hN ⟨by omega, by omega⟩ (fun z526 g_z526 e_z526 => ?_)
        unfold in32 at g_z526
        refine x_callV k231_1273 (y := 120) (n := 3) (w0 := 0) (w1 := 3) (as := [vi z522, vi z524, vi z526]) (rest := []) (by decide +kernel) (q := 0) (nq := 12) (kq := 3) ⟨by decide, rfl⟩ rfl rfl rfl rfl (xe_mono (C_X10_split_0 s hG i_J z522 (by first | exact x_rbe e_z522 g_z522 rfl rfl | exact x_rb g_z522 rfl rfl | exact ⟨by omega, by omega⟩) z524 (by first | exact x_rbe e_z524 g_z524 rfl rfl | exact x_rb g_z524 rfl rfl | exact ⟨by omega, by omega⟩) z526 (by first | exact x_rbe e_z526 g_z526 rfl rfl | exact x_rb g_z526 rfl rfl | exact ⟨by omega, by omega⟩)) ?_)
        rintro s528 v ⟨hG_s528, t_s528, z527, rfl, g_z527⟩
        have q529 : s528 46 3 = x1000 := (t_s528 46 3 (show 452 ∉ [3329, 3334, 3335, 3336, 3392, 3456, 3520, 3584, 3276, 3648, 3712, 3776, 3840, 3904, 3968, 3277, 4032] from by decide +kernel)).trans e_x1000.symm
        have q530 : s528 256 6 = x1001 := (t_s528 256 6 (show 4103 ∉ [3329, 3334, 3335, 3336, 3392, 3456, 3520, 3584, 3276, 3648, 3712, 3776, 3840, 3904, 3968, 3277, 4032] from by decide +kernel)).trans e_x1001.symm
        have J_s528 : J s528 := J.fl i_J t_s528 (by decide +kernel)
        show xe (some (N, xs)) 231 1276 [(0, .ref 2000), (1, .ref 0), (2, .ref 256), (3, vi x3)] [vi z527] s528 295 10442 _
        refine x_A k231_1276 (fun _ => rfl) ?_
        refine x_A k231_1277 (fun _ => rfl) ?_
        refine x_A k231_1278 (fun _ => rfl) ?_
        refine x_A k231_1279 (fun _ => rfl) ?_
        refine x_A k231_1280 (fun _ => rfl) ?_
        refine x_iadd k231_1281 ?_
        refine x_top (fun z531 e_z531 => ?_)
        refine x_scr k231_1282 hN ⟨by omega, by omega⟩ (fun z532 g_z532 e_z532 => ?_)
        unfold in32 at g_z532
        have q_z532 : z532 = z522 := by rw [e_z532, e_z522, show z531 = z521 by omega]
        refine x_A k231_1283 (fun _ => rfl) ?_
        refine x_A k231_1284 (fun _ => rfl) ?_
        refine x_A k231_1285 (fun _ => rfl) ?_
        refine x_iadd k231_1286 ?_
        refine x_top (fun z533 e_z533 => ?_)
        refine x_scr k231_1287 hN ⟨by omega, by omega⟩ (fun z534 g_z534 e_z534 => ?_)
        unfold in32 at g_z534
        have q_z534 : z534 = z524 := by rw [e_z534, e_z524, show z533 = z523 by omega]
        refine x_A k231_1288 (fun _ => rfl) ?_
        refine x_A k231_1289 (fun _ => rfl) ?_
        refine x_A k231_1290 (fun _ => rfl) ?_
        refine x_iadd k231_1291 ?_
        refine x_top (fun z535 e_z535 => ?_)
        refine x_scr k231_1292 hN ⟨by omega, by omega⟩ (fun z536 g_z536 e_z536 => ?_)
        unfold in32 at g_z536
        have q_z536 : z536 = z526 := by rw [e_z536, e_z526, show z535 = z525 by omega]
        refine x_callV k231_1293 (y := 218) (n := 3) (w0 := 0) (w1 := 3) (as := [vi z532, vi z534, vi z536]) (rest := []) (by decide +kernel) (q := 256) (nq := 62) (kq := 15) ⟨by decide, rfl⟩ rfl rfl rfl rfl (xe_mono (C_X11_split_256 s528 hG_s528 J_s528 z532 (by first | exact x_rbe e_z532 g_z532 rfl rfl | exact x_rb g_z532 rfl rfl | exact ⟨by omega, by omega⟩) z534 (by first | exact x_rbe e_z534 g_z534 rfl rfl | exact x_rb g_z534 rfl rfl | exact ⟨by omega, by omega⟩) z536 (by first | exact x_rbe e_z536 g_z536 rfl rfl | exact x_rb g_z536 rfl rfl | exact ⟨by omega, by omega⟩)) ?_)
        rintro s538 v ⟨hG_s538, t_s538, z537, rfl, g_z537⟩
        have q539 : s538 46 3 = x1000 := (t_s538 46 3 (show 452 ∉ [5312, 5376, 4123, 5440, 5504, 5568, 5632, 5696, 5760] from by decide +kernel)).trans q529
        have q540 : s538 256 6 = x1001 := (t_s538 256 6 (show 4103 ∉ [5312, 5376, 4123, 5440, 5504, 5568, 5632, 5696, 5760] from by decide +kernel)).trans q530
        have J_s538 : J s538 := J.fl J_s528 t_s538 (by decide +kernel)
        show xe (some (N, xs)) 231 1296 [(0, .ref 2000), (1, .ref 0), (2, .ref 256), (3, vi x3)] [vi z537] s538 295 10442 _
        refine x_A k231_1296 (fun _ => rfl) ?_
        refine x_goto k231_1297 (t := 1300) rfl ?_
        refine x_iinc k231_1300 (ls' := [(3, vi (x3 + 7)), (0, .ref 2000), (1, .ref 0), (2, .ref 256)]) rfl (by decide) rfl ?_
        refine x_goto k231_1303 (t := 18) rfl ?_
        refine x_ls (l := [(0, .ref 2000), (1, .ref 0), (2, .ref 256), (3, vi (x3 + 7))]) (show ([0, 1, 2, 3] : List Nat).Nodup from by decide +kernel) ⟨rfl, rfl, rfl, rfl, trivial⟩ ?_
        exact ih s538 (x3 + 7) x1000 x1001 hG_s538 trivial ⟨by omega, by omega⟩ (by first | exact x_rb b_x1000 rfl rfl | exact ⟨by omega, by omega⟩) (by first | exact x_rb b_x1001 rfl rfl | exact ⟨by omega, by omega⟩) (by omega) (q539).symm (q540).symm J_s538  (by omega)
      · refine x_tabD k231_33 ⟨by omega, by omega⟩ c5 (t0 := 1300) rfl ?_
        refine x_iinc k231_1300 (ls' := [(3, vi (x3 + 7)), (0, .ref 2000), (1, .ref 0), (2, .ref 256)]) rfl (by decide) rfl ?_
        refine x_goto k231_1303 (t := 18) rfl ?_
        refine x_ls (l := [(0, .ref 2000), (1, .ref 0), (2, .ref 256), (3, vi (x3 + 7))]) (show ([0, 1, 2, 3] : List Nat).Nodup from by decide +kernel) ⟨rfl, rfl, rfl, rfl, trivial⟩ ?_
        exact ih s (x3 + 7) x1000 x1001 hG f ⟨by omega, by omega⟩ (by first | exact x_rb b_x1000 rfl rfl | exact ⟨by omega, by omega⟩) (by first | exact x_rb b_x1001 rfl rfl | exact ⟨by omega, by omega⟩) (by omega) (e_x1000.symm).symm (e_x1001.symm).symm i_J  (by omega)
