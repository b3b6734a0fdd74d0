set_option maxHeartbeats 8000000 in
theorem law_loop (N : Nat) (xs : Nat → Int32) (hN : N ≤ 3584)  : ∀ (n : Nat) (s : xS) (x3 : Int) (hG : GI s) (f : True) (b_x3 : 0 ≤ x3 ∧ x3 ≤ 3584) (i_J : J s) (i_X1 : X1 s)  (hm : (3584 - x3) < (n : Int)), xe (some (N, xs)) 231 18 [(0, .ref 2000), (1, .ref 0), (2, .ref 256), (3, vi x3)] [] s 295 10442 (fun _ v => v = some (vi 1)) := by
  intro n
  induction n with
  | zero => intro s x3 hG f b_x3 i_J i_X1  hm; exfalso; omega
  | succ n ih =>
    intro s x3 hG f b_x3 i_J i_X1  hm
    refine x_A k231_18 (fun _ => rfl) ?_
    refine x_A k231_19 (fun _ => rfl) ?_
    refine x_slen k231_20 ?_
    refine x_bipush k231_21 (by decide +kernel) ?_
    refine x_isub k231_23 ?_
    refine x_top (fun z1 e_z1 => ?_)
    refine x_ic_gt k231_24 (t := 1306) rfl (by first | exact x_rb b_x3 rfl rfl | exact ⟨by omega, by omega⟩) (by first | exact x_rbe e_z1 g_z1 rfl rfl | exact x_rb g_z1 rfl rfl | exact ⟨by omega, by omega⟩) (fun c2 => ?_) (fun c2 => ?_)
    · skip
      refine x_A k231_1306 (fun _ => rfl) ?_
      exact x_zret k231_1307 rfl ⟨by omega, by omega⟩ rfl
    · skip
      refine x_A k231_27 (fun _ => rfl) ?_
      refine x_A k231_28 (fun _ => rfl) ?_
      refine x_scr k231_29 hN ⟨by omega, by omega⟩ (fun z3 g_z3 e_z3 => ?_)
      unfold in32 at g_z3
      refine x_bipush k231_30 (by decide +kernel) ?_
      refine x_and_mask k231_32 ⟨by omega, by omega⟩ (fun z4 g_z4 => ?_)
      have c5 : z4 = 0 ∨ z4 = 1 ∨ z4 = 2 ∨ z4 = 3 ∨ z4 = 4 ∨ z4 = 5 ∨ z4 = 6 ∨ z4 = 7 ∨ z4 = 8 ∨ z4 = 9 ∨ z4 = 10 ∨ z4 = 11 ∨ z4 = 12 ∨ z4 = 13 ∨ z4 = 14 ∨ z4 = 15 ∨ z4 = 16 ∨ z4 = 17 ∨ z4 = 18 ∨ z4 = 19 ∨ z4 = 20 ∨ z4 = 21 ∨ z4 = 22 ∨ z4 = 23 ∨ z4 = 24 ∨ z4 = 25 ∨ z4 = 26 ∨ z4 = 27 ∨ z4 = 28 ∨ z4 = 29 ∨ ¬ (0 ≤ z4 ∧ z4 ≤ 29) := by omega
      rcases c5 with c5 | c5 | c5 | c5 | c5 | c5 | c5 | c5 | c5 | c5 | c5 | c5 | c5 | c5 | c5 | c5 | c5 | c5 | c5 | c5 | c5 | c5 | c5 | c5 | c5 | c5 | c5 | c5 | c5 | c5 | c5
      · rw [c5]
        refine x_B k231_33 rfl (fun _ => rfl) (fun _ => rfl) (fun _ _ => rfl) ?_
        show xe (some (N, xs)) 231 168 [(0, .ref 2000), (1, .ref 0), (2, .ref 256), (3, vi x3)] [] s 295 10442 _
        refine x_A k231_168 (fun _ => rfl) ?_
        refine x_callV k231_169 (y := 91) (n := 0) (w0 := 0) (w1 := 0) (as := []) (rest := []) (by decide +kernel) (q := 0) (nq := 12) (kq := 3) ⟨by decide, rfl⟩ rfl rfl rfl rfl (xe_mono (C_X10_edition_0 s hG) ?_)
        rintro s7 v ⟨hG_s7, t_s7, z6, rfl, g_z6, xp_z6⟩
        have J_s7 : J s7 := J.fl i_J t_s7 (by decide +kernel)
        have X1_s7 : X1 s7 := X1.fl i_X1 t_s7 (by decide +kernel)
        obtain ⟨z8, e_z8⟩ : ∃ z, z = s7 0 10 := ⟨_, rfl⟩
        have g_z8 : (0 : Int) ≤ s7 0 10 ∧ s7 0 10 ≤ 9 := hG_s7 0 10
        show xe (some (N, xs)) 231 172 [(0, .ref 2000), (1, .ref 0), (2, .ref 256), (3, vi x3)] [vi z6] s7 295 10442 _
        refine x_A k231_172 (fun _ => rfl) ?_
        refine x_A k231_173 (fun _ => rfl) ?_
        refine x_callV k231_174 (y := 145) (n := 0) (w0 := 0) (w1 := 0) (as := []) (rest := []) (by decide +kernel) (q := 256) (nq := 62) (kq := 15) ⟨by decide, rfl⟩ rfl rfl rfl rfl (xe_mono (D_X11_edition_256 s7 hG_s7 J_s7) ?_)
        rintro s10 v ⟨hG_s10, t_s10, z9, rfl, g_z9, xp_z9, J_s10⟩
        have q11 : s10 0 10 = z8 := (t_s10 0 10 (show 11 ∉ [4097] from by decide +kernel)).trans e_z8.symm
        have X1_s10 : X1 s10 := X1.fl X1_s7 t_s10 (by decide +kernel)
        obtain ⟨z12, e_z12⟩ : ∃ z, z = s10 256 0 := ⟨_, rfl⟩
        have g_z12 : (0 : Int) ≤ s10 256 0 ∧ s10 256 0 ≤ 9 := hG_s10 256 0
        show xe (some (N, xs)) 231 177 [(0, .ref 2000), (1, .ref 0), (2, .ref 256), (3, vi x3)] [vi z9] s10 295 10442 _
        refine x_A k231_177 (fun _ => rfl) ?_
        refine x_goto k231_178 (t := 1300) rfl ?_
        refine x_iinc k231_1300 (ls' := [(3, vi (x3 + 7)), (0, .ref 2000), (1, .ref 0), (2, .ref 256)]) rfl (by decide) rfl ?_
        refine x_goto k231_1303 (t := 18) rfl ?_
        refine x_ls (l := [(0, .ref 2000), (1, .ref 0), (2, .ref 256), (3, vi (x3 + 7))]) (show ([0, 1, 2, 3] : List Nat).Nodup from by decide +kernel) ⟨rfl, rfl, rfl, rfl, trivial⟩ ?_
        exact ih s10 (x3 + 7) hG_s10 trivial ⟨by omega, by omega⟩ J_s10 X1_s10  (by omega)
      · rw [c5]
        refine x_B k231_33 rfl (fun _ => rfl) (fun _ => rfl) (fun _ _ => rfl) ?_
        show xe (some (N, xs)) 231 181 [(0, .ref 2000), (1, .ref 0), (2, .ref 256), (3, vi x3)] [] s 295 10442 _
        refine x_A k231_181 (fun _ => rfl) ?_
        refine x_A k231_182 (fun _ => rfl) ?_
        refine x_A k231_183 (fun _ => rfl) ?_
        refine x_A k231_184 (fun _ => rfl) ?_
        refine x_iadd k231_185 ?_
        refine x_top (fun z13 e_z13 => ?_)
        refine x_scr k231_186 hN ⟨by omega, by omega⟩ (fun z14 g_z14 e_z14 => ?_)
        unfold in32 at g_z14
        refine x_callV k231_187 (y := 92) (n := 1) (w0 := 0) (w1 := 1) (as := [vi z14]) (rest := []) (by decide +kernel) (q := 0) (nq := 12) (kq := 3) ⟨by decide, rfl⟩ rfl rfl rfl rfl (xe_mono (C_X10_mark_0 s hG z14 (by first | exact x_rbe e_z14 g_z14 rfl rfl | exact x_rb g_z14 rfl rfl | exact ⟨by omega, by omega⟩)) ?_)
        rintro s16 v ⟨hG_s16, t_s16, z15, rfl, g_z15⟩
        have J_s16 : J s16 := J.fl i_J t_s16 (by decide +kernel)
        have X1_s16 : X1 s16 := X1.fl i_X1 t_s16 (by decide +kernel)
        show xe (some (N, xs)) 231 190 [(0, .ref 2000), (1, .ref 0), (2, .ref 256), (3, vi x3)] [vi z15] s16 295 10442 _
        refine x_A k231_190 (fun _ => rfl) ?_
        refine x_A k231_191 (fun _ => rfl) ?_
        refine x_A k231_192 (fun _ => rfl) ?_
        refine x_A k231_193 (fun _ => rfl) ?_
        refine x_A k231_194 (fun _ => rfl) ?_
        refine x_iadd k231_195 ?_
        refine x_top (fun z17 e_z17 => ?_)
        refine x_scr k231_196 hN ⟨by omega, by omega⟩ (fun z18 g_z18 e_z18 => ?_)
        unfold in32 at g_z18
        have q_z18 : z18 = z14 := by rw [e_z18, e_z14, show z17 = z13 by omega]
        refine x_callV k231_197 (y := 146) (n := 1) (w0 := 0) (w1 := 1) (as := [vi z18]) (rest := []) (by decide +kernel) (q := 256) (nq := 62) (kq := 15) ⟨by decide, rfl⟩ rfl rfl rfl rfl (xe_mono (D_X11_mark_256 s16 hG_s16 z18 (by first | exact x_rbe e_z18 g_z18 rfl rfl | exact x_rb g_z18 rfl rfl | exact ⟨by omega, by omega⟩) J_s16) ?_)
        rintro s20 v ⟨hG_s20, t_s20, z19, rfl, g_z19, J_s20⟩
        have X1_s20 : X1 s20 := X1.fl X1_s16 t_s20 (by decide +kernel)
        show xe (some (N, xs)) 231 200 [(0, .ref 2000), (1, .ref 0), (2, .ref 256), (3, vi x3)] [vi z19] s20 295 10442 _
        refine x_A k231_200 (fun _ => rfl) ?_
        refine x_goto k231_201 (t := 1300) rfl ?_
        refine x_iinc k231_1300 (ls' := [(3, vi (x3 + 7)), (0, .ref 2000), (1, .ref 0), (2, .ref 256)]) rfl (by decide) rfl ?_
        refine x_goto k231_1303 (t := 18) rfl ?_
        refine x_ls (l := [(0, .ref 2000), (1, .ref 0), (2, .ref 256), (3, vi (x3 + 7))]) (show ([0, 1, 2, 3] : List Nat).Nodup from by decide +kernel) ⟨rfl, rfl, rfl, rfl, trivial⟩ ?_
        exact ih s20 (x3 + 7) hG_s20 trivial ⟨by omega, by omega⟩ J_s20 X1_s20  (by omega)
      · rw [c5]
        refine x_B k231_33 rfl (fun _ => rfl) (fun _ => rfl) (fun _ _ => rfl) ?_
        show xe (some (N, xs)) 231 204 [(0, .ref 2000), (1, .ref 0), (2, .ref 256), (3, vi x3)] [] s 295 10442 _
        refine x_A k231_204 (fun _ => rfl) ?_
        refine x_A k231_205 (fun _ => rfl) ?_
        refine x_A k231_206 (fun _ => rfl) ?_
        refine x_A k231_207 (fun _ => rfl) ?_
        refine x_iadd k231_208 ?_
        refine x_top (fun z21 e_z21 => ?_)
        refine x_scr k231_209 hN ⟨by omega, by omega⟩ (fun z22 g_z22 e_z22 => ?_)
        unfold in32 at g_z22
        refine x_A k231_210 (fun _ => rfl) ?_
        refine x_A k231_211 (fun _ => rfl) ?_
        refine x_A k231_212 (fun _ => rfl) ?_
        refine x_iadd k231_213 ?_
        refine x_top (fun z23 e_z23 => ?_)
        refine x_scr k231_214 hN ⟨by omega, by omega⟩ (fun z24 g_z24 e_z24 => ?_)
        unfold in32 at g_z24
        refine x_callV k231_215 (y := 93) (n := 2) (w0 := 0) (w1 := 2) (as := [vi z22, vi z24]) (rest := []) (by decide +kernel) (q := 0) (nq := 12) (kq := 3) ⟨by decide, rfl⟩ rfl rfl rfl rfl (xe_mono (C_X10_move_0 s hG z22 (by first | exact x_rbe e_z22 g_z22 rfl rfl | exact x_rb g_z22 rfl rfl | exact ⟨by omega, by omega⟩) z24 (by first | exact x_rbe e_z24 g_z24 rfl rfl | exact x_rb g_z24 rfl rfl | exact ⟨by omega, by omega⟩)) ?_)
        rintro s26 v ⟨hG_s26, t_s26, z25, rfl, g_z25⟩
        have J_s26 : J s26 := J.fl i_J t_s26 (by decide +kernel)
        have X1_s26 : X1 s26 := X1.fl i_X1 t_s26 (by decide +kernel)
        show xe (some (N, xs)) 231 218 [(0, .ref 2000), (1, .ref 0), (2, .ref 256), (3, vi x3)] [vi z25] s26 295 10442 _
        refine x_A k231_218 (fun _ => rfl) ?_
        refine x_A k231_219 (fun _ => rfl) ?_
        refine x_A k231_220 (fun _ => rfl) ?_
        refine x_A k231_221 (fun _ => rfl) ?_
        refine x_A k231_222 (fun _ => rfl) ?_
        refine x_iadd k231_223 ?_
        refine x_top (fun z27 e_z27 => ?_)
        refine x_scr k231_224 hN ⟨by omega, by omega⟩ (fun z28 g_z28 e_z28 => ?_)
        unfold in32 at g_z28
        have q_z28 : z28 = z22 := by rw [e_z28, e_z22, show z27 = z21 by omega]
        refine x_A k231_225 (fun _ => rfl) ?_
        refine x_A k231_226 (fun _ => rfl) ?_
        refine x_A k231_227 (fun _ => rfl) ?_
        refine x_iadd k231_228 ?_
        refine x_top (fun z29 e_z29 => ?_)
        refine x_scr k231_229 hN ⟨by omega, by omega⟩ (fun z30 g_z30 e_z30 => ?_)
        unfold in32 at g_z30
        have q_z30 : z30 = z24 := by rw [e_z30, e_z24, show z29 = z23 by omega]
        refine x_callV k231_230 (y := 147) (n := 2) (w0 := 0) (w1 := 2) (as := [vi z28, vi z30]) (rest := []) (by decide +kernel) (q := 256) (nq := 62) (kq := 15) ⟨by decide, rfl⟩ rfl rfl rfl rfl (xe_mono (D_X11_move_256 s26 hG_s26 z28 (by first | exact x_rbe e_z28 g_z28 rfl rfl | exact x_rb g_z28 rfl rfl | exact ⟨by omega, by omega⟩) z30 (by first | exact x_rbe e_z30 g_z30 rfl rfl | exact x_rb g_z30 rfl rfl | exact ⟨by omega, by omega⟩) J_s26) ?_)
        rintro s32 v ⟨hG_s32, t_s32, z31, rfl, g_z31, J_s32⟩
        have X1_s32 : X1 s32 := X1.fl X1_s26 t_s32 (by decide +kernel)
        show xe (some (N, xs)) 231 233 [(0, .ref 2000), (1, .ref 0), (2, .ref 256), (3, vi x3)] [vi z31] s32 295 10442 _
        refine x_A k231_233 (fun _ => rfl) ?_
        refine x_goto k231_234 (t := 1300) rfl ?_
        refine x_iinc k231_1300 (ls' := [(3, vi (x3 + 7)), (0, .ref 2000), (1, .ref 0), (2, .ref 256)]) rfl (by decide) rfl ?_
        refine x_goto k231_1303 (t := 18) rfl ?_
        refine x_ls (l := [(0, .ref 2000), (1, .ref 0), (2, .ref 256), (3, vi (x3 + 7))]) (show ([0, 1, 2, 3] : List Nat).Nodup from by decide +kernel) ⟨rfl, rfl, rfl, rfl, trivial⟩ ?_
        exact ih s32 (x3 + 7) hG_s32 trivial ⟨by omega, by omega⟩ J_s32 X1_s32  (by omega)
      · rw [c5]
        refine x_B k231_33 rfl (fun _ => rfl) (fun _ => rfl) (fun _ _ => rfl) ?_
        show xe (some (N, xs)) 231 237 [(0, .ref 2000), (1, .ref 0), (2, .ref 256), (3, vi x3)] [] s 295 10442 _
        refine x_A k231_237 (fun _ => rfl) ?_
        refine x_A k231_238 (fun _ => rfl) ?_
        refine x_A k231_239 (fun _ => rfl) ?_
        refine x_A k231_240 (fun _ => rfl) ?_
        refine x_iadd k231_241 ?_
        refine x_top (fun z33 e_z33 => ?_)
        refine x_scr k231_242 hN ⟨by omega, by omega⟩ (fun z34 g_z34 e_z34 => ?_)
        unfold in32 at g_z34
        refine x_A k231_243 (fun _ => rfl) ?_
        refine x_A k231_244 (fun _ => rfl) ?_
        refine x_A k231_245 (fun _ => rfl) ?_
        refine x_iadd k231_246 ?_
        refine x_top (fun z35 e_z35 => ?_)
        refine x_scr k231_247 hN ⟨by omega, by omega⟩ (fun z36 g_z36 e_z36 => ?_)
        unfold in32 at g_z36
        refine x_callV k231_248 (y := 94) (n := 2) (w0 := 0) (w1 := 2) (as := [vi z34, vi z36]) (rest := []) (by decide +kernel) (q := 0) (nq := 12) (kq := 3) ⟨by decide, rfl⟩ rfl rfl rfl rfl (xe_mono (C_X10_end_0 s hG z34 (by first | exact x_rbe e_z34 g_z34 rfl rfl | exact x_rb g_z34 rfl rfl | exact ⟨by omega, by omega⟩) z36 (by first | exact x_rbe e_z36 g_z36 rfl rfl | exact x_rb g_z36 rfl rfl | exact ⟨by omega, by omega⟩)) ?_)
        rintro s38 v ⟨hG_s38, t_s38, z37, rfl, g_z37⟩
        have J_s38 : J s38 := J.fl i_J t_s38 (by decide +kernel)
        have X1_s38 : X1 s38 := X1.fl i_X1 t_s38 (by decide +kernel)
        show xe (some (N, xs)) 231 251 [(0, .ref 2000), (1, .ref 0), (2, .ref 256), (3, vi x3)] [vi z37] s38 295 10442 _
        refine x_A k231_251 (fun _ => rfl) ?_
        refine x_A k231_252 (fun _ => rfl) ?_
        refine x_A k231_253 (fun _ => rfl) ?_
        refine x_A k231_254 (fun _ => rfl) ?_
        refine x_A k231_255 (fun _ => rfl) ?_
        refine x_iadd k231_256 ?_
        refine x_top (fun z39 e_z39 => ?_)
        refine x_scr k231_257 hN ⟨by omega, by omega⟩ (fun z40 g_z40 e_z40 => ?_)
        unfold in32 at g_z40
        have q_z40 : z40 = z34 := by rw [e_z40, e_z34, show z39 = z33 by omega]
        refine x_A k231_258 (fun _ => rfl) ?_
        refine x_A k231_259 (fun _ => rfl) ?_
        refine x_A k231_260 (fun _ => rfl) ?_
        refine x_iadd k231_261 ?_
        refine x_top (fun z41 e_z41 => ?_)
        refine x_scr k231_262 hN ⟨by omega, by omega⟩ (fun z42 g_z42 e_z42 => ?_)
        unfold in32 at g_z42
        have q_z42 : z42 = z36 := by rw [e_z42, e_z36, show z41 = z35 by omega]
        refine x_callV k231_263 (y := 148) (n := 2) (w0 := 0) (w1 := 2) (as := [vi z40, vi z42]) (rest := []) (by decide +kernel) (q := 256) (nq := 62) (kq := 15) ⟨by decide, rfl⟩ rfl rfl rfl rfl (xe_mono (D_X11_end_256 s38 hG_s38 z40 (by first | exact x_rbe e_z40 g_z40 rfl rfl | exact x_rb g_z40 rfl rfl | exact ⟨by omega, by omega⟩) z42 (by first | exact x_rbe e_z42 g_z42 rfl rfl | exact x_rb g_z42 rfl rfl | exact ⟨by omega, by omega⟩) J_s38) ?_)
        rintro s44 v ⟨hG_s44, t_s44, z43, rfl, g_z43, J_s44⟩
        have X1_s44 : X1 s44 := X1.fl X1_s38 t_s44 (by decide +kernel)
        show xe (some (N, xs)) 231 266 [(0, .ref 2000), (1, .ref 0), (2, .ref 256), (3, vi x3)] [vi z43] s44 295 10442 _
        refine x_A k231_266 (fun _ => rfl) ?_
        refine x_goto k231_267 (t := 1300) rfl ?_
        refine x_iinc k231_1300 (ls' := [(3, vi (x3 + 7)), (0, .ref 2000), (1, .ref 0), (2, .ref 256)]) rfl (by decide) rfl ?_
        refine x_goto k231_1303 (t := 18) rfl ?_
        refine x_ls (l := [(0, .ref 2000), (1, .ref 0), (2, .ref 256), (3, vi (x3 + 7))]) (show ([0, 1, 2, 3] : List Nat).Nodup from by decide +kernel) ⟨rfl, rfl, rfl, rfl, trivial⟩ ?_
        exact ih s44 (x3 + 7) hG_s44 trivial ⟨by omega, by omega⟩ J_s44 X1_s44  (by omega)
      · rw [c5]
        refine x_B k231_33 rfl (fun _ => rfl) (fun _ => rfl) (fun _ _ => rfl) ?_
        show xe (some (N, xs)) 231 270 [(0, .ref 2000), (1, .ref 0), (2, .ref 256), (3, vi x3)] [] s 295 10442 _
        refine x_A k231_270 (fun _ => rfl) ?_
        refine x_A k231_271 (fun _ => rfl) ?_
        refine x_A k231_272 (fun _ => rfl) ?_
        refine x_A k231_273 (fun _ => rfl) ?_
        refine x_iadd k231_274 ?_
        refine x_top (fun z45 e_z45 => ?_)
        refine x_scr k231_275 hN ⟨by omega, by omega⟩ (fun z46 g_z46 e_z46 => ?_)
        unfold in32 at g_z46
        refine x_A k231_276 (fun _ => rfl) ?_
        refine x_A k231_277 (fun _ => rfl) ?_
        refine x_A k231_278 (fun _ => rfl) ?_
        refine x_iadd k231_279 ?_
        refine x_top (fun z47 e_z47 => ?_)
        refine x_scr k231_280 hN ⟨by omega, by omega⟩ (fun z48 g_z48 e_z48 => ?_)
        unfold in32 at g_z48
        refine x_A k231_281 (fun _ => rfl) ?_
        refine x_A k231_282 (fun _ => rfl) ?_
        refine x_A k231_283 (fun _ => rfl) ?_
        refine x_iadd k231_284 ?_
        refine x_top (fun z49 e_z49 => ?_)
        refine x_scr k231_285 hN ⟨by omega, by omega⟩ (fun z50 g_z50 e_z50 => ?_)
        unfold in32 at g_z50
        refine x_callV k231_286 (y := 95) (n := 3) (w0 := 0) (w1 := 3) (as := [vi z46, vi z48, vi z50]) (rest := []) (by decide +kernel) (q := 0) (nq := 12) (kq := 3) ⟨by decide, rfl⟩ rfl rfl rfl rfl (xe_mono (C_X10_tree_0 s hG i_J z46 (by first | exact x_rbe e_z46 g_z46 rfl rfl | exact x_rb g_z46 rfl rfl | exact ⟨by omega, by omega⟩) z48 (by first | exact x_rbe e_z48 g_z48 rfl rfl | exact x_rb g_z48 rfl rfl | exact ⟨by omega, by omega⟩) z50 (by first | exact x_rbe e_z50 g_z50 rfl rfl | exact x_rb g_z50 rfl rfl | exact ⟨by omega, by omega⟩)) ?_)
        rintro s52 v ⟨hG_s52, t_s52, z51, rfl, g_z51⟩
        have J_s52 : J s52 := J.fl i_J t_s52 (by decide +kernel)
        have X1_s52 : X1 s52 := X1.fl i_X1 t_s52 (by decide +kernel)
        show xe (some (N, xs)) 231 289 [(0, .ref 2000), (1, .ref 0), (2, .ref 256), (3, vi x3)] [vi z51] s52 295 10442 _
        refine x_A k231_289 (fun _ => rfl) ?_
        refine x_A k231_290 (fun _ => rfl) ?_
        refine x_A k231_291 (fun _ => rfl) ?_
        refine x_A k231_292 (fun _ => rfl) ?_
        refine x_A k231_293 (fun _ => rfl) ?_
        refine x_iadd k231_294 ?_
        refine x_top (fun z53 e_z53 => ?_)
        refine x_scr k231_295 hN ⟨by omega, by omega⟩ (fun z54 g_z54 e_z54 => ?_)
        unfold in32 at g_z54
        have q_z54 : z54 = z46 := by rw [e_z54, e_z46, show z53 = z45 by omega]
        refine x_A k231_296 (fun _ => rfl) ?_
        refine x_A k231_297 (fun _ => rfl) ?_
        refine x_A k231_298 (fun _ => rfl) ?_
        refine x_iadd k231_299 ?_
        refine x_top (fun z55 e_z55 => ?_)
        refine x_scr k231_300 hN ⟨by omega, by omega⟩ (fun z56 g_z56 e_z56 => ?_)
        unfold in32 at g_z56
        have q_z56 : z56 = z48 := by rw [e_z56, e_z48, show z55 = z47 by omega]
        refine x_A k231_301 (fun _ => rfl) ?_
        refine x_A k231_302 (fun _ => rfl) ?_
        refine x_A k231_303 (fun _ => rfl) ?_
        refine x_iadd k231_304 ?_
        refine x_top (fun z57 e_z57 => ?_)
        refine x_scr k231_305 hN ⟨by omega, by omega⟩ (fun z58 g_z58 e_z58 => ?_)
        unfold in32 at g_z58
        have q_z58 : z58 = z50 := by rw [e_z58, e_z50, show z57 = z49 by omega]
        refine x_callV k231_306 (y := 149) (n := 3) (w0 := 0) (w1 := 3) (as := [vi z54, vi z56, vi z58]) (rest := []) (by decide +kernel) (q := 256) (nq := 62) (kq := 15) ⟨by decide, rfl⟩ rfl rfl rfl rfl (xe_mono (C_X11_tree_256 s52 hG_s52 J_s52 z54 (by first | exact x_rbe e_z54 g_z54 rfl rfl | exact x_rb g_z54 rfl rfl | exact ⟨by omega, by omega⟩) z56 (by first | exact x_rbe e_z56 g_z56 rfl rfl | exact x_rb g_z56 rfl rfl | exact ⟨by omega, by omega⟩) z58 (by first | exact x_rbe e_z58 g_z58 rfl rfl | exact x_rb g_z58 rfl rfl | exact ⟨by omega, by omega⟩)) ?_)
        rintro s60 v ⟨hG_s60, t_s60, z59, rfl, g_z59⟩
        have J_s60 : J s60 := J.fl J_s52 t_s60 (by decide +kernel)
        have X1_s60 : X1 s60 := X1.fl X1_s52 t_s60 (by decide +kernel)
        show xe (some (N, xs)) 231 309 [(0, .ref 2000), (1, .ref 0), (2, .ref 256), (3, vi x3)] [vi z59] s60 295 10442 _
        refine x_A k231_309 (fun _ => rfl) ?_
        refine x_goto k231_310 (t := 1300) rfl ?_
        refine x_iinc k231_1300 (ls' := [(3, vi (x3 + 7)), (0, .ref 2000), (1, .ref 0), (2, .ref 256)]) rfl (by decide) rfl ?_
        refine x_goto k231_1303 (t := 18) rfl ?_
        refine x_ls (l := [(0, .ref 2000), (1, .ref 0), (2, .ref 256), (3, vi (x3 + 7))]) (show ([0, 1, 2, 3] : List Nat).Nodup from by decide +kernel) ⟨rfl, rfl, rfl, rfl, trivial⟩ ?_
        exact ih s60 (x3 + 7) hG_s60 trivial ⟨by omega, by omega⟩ J_s60 X1_s60  (by omega)
      · rw [c5]
        refine x_B k231_33 rfl (fun _ => rfl) (fun _ => rfl) (fun _ _ => rfl) ?_
        show xe (some (N, xs)) 231 313 [(0, .ref 2000), (1, .ref 0), (2, .ref 256), (3, vi x3)] [] s 295 10442 _
        refine x_A k231_313 (fun _ => rfl) ?_
        refine x_A k231_314 (fun _ => rfl) ?_
        refine x_A k231_315 (fun _ => rfl) ?_
        refine x_A k231_316 (fun _ => rfl) ?_
        refine x_iadd k231_317 ?_
        refine x_top (fun z61 e_z61 => ?_)
        refine x_scr k231_318 hN ⟨by omega, by omega⟩ (fun z62 g_z62 e_z62 => ?_)
        unfold in32 at g_z62
        refine x_A k231_319 (fun _ => rfl) ?_
        refine x_A k231_320 (fun _ => rfl) ?_
        refine x_A k231_321 (fun _ => rfl) ?_
        refine x_iadd k231_322 ?_
        refine x_top (fun z63 e_z63 => ?_)
        refine x_scr k231_323 hN ⟨by omega, by omega⟩ (fun z64 g_z64 e_z64 => ?_)
        unfold in32 at g_z64
        refine x_A k231_324 (fun _ => rfl) ?_
        refine x_A k231_325 (fun _ => rfl) ?_
        refine x_A k231_326 (fun _ => rfl) ?_
        refine x_iadd k231_327 ?_
        refine x_top (fun z65 e_z65 => ?_)
        refine x_scr k231_328 hN ⟨by omega, by omega⟩ (fun z66 g_z66 e_z66 => ?_)
        unfold in32 at g_z66
        refine x_callV k231_329 (y := 96) (n := 3) (w0 := 0) (w1 := 3) (as := [vi z62, vi z64, vi z66]) (rest := []) (by decide +kernel) (q := 0) (nq := 12) (kq := 3) ⟨by decide, rfl⟩ rfl rfl rfl rfl (xe_mono (C_X10_below_0 s hG z62 (by first | exact x_rbe e_z62 g_z62 rfl rfl | exact x_rb g_z62 rfl rfl | exact ⟨by omega, by omega⟩) z64 (by first | exact x_rbe e_z64 g_z64 rfl rfl | exact x_rb g_z64 rfl rfl | exact ⟨by omega, by omega⟩) z66 (by first | exact x_rbe e_z66 g_z66 rfl rfl | exact x_rb g_z66 rfl rfl | exact ⟨by omega, by omega⟩)) ?_)
        rintro s68 v ⟨-, t_s68, z67, rfl, g_z67⟩
        rw [t_s68.nil]
        show xe (some (N, xs)) 231 332 [(0, .ref 2000), (1, .ref 0), (2, .ref 256), (3, vi x3)] [vi z67] s 295 10442 _
        refine x_A k231_332 (fun _ => rfl) ?_
        refine x_A k231_333 (fun _ => rfl) ?_
        refine x_A k231_334 (fun _ => rfl) ?_
        refine x_A k231_335 (fun _ => rfl) ?_
        refine x_A k231_336 (fun _ => rfl) ?_
        refine x_iadd k231_337 ?_
        refine x_top (fun z69 e_z69 => ?_)
        refine x_scr k231_338 hN ⟨by omega, by omega⟩ (fun z70 g_z70 e_z70 => ?_)
        unfold in32 at g_z70
        have q_z70 : z70 = z62 := by rw [e_z70, e_z62, show z69 = z61 by omega]
        refine x_A k231_339 (fun _ => rfl) ?_
        refine x_A k231_340 (fun _ => rfl) ?_
        refine x_A k231_341 (fun _ => rfl) ?_
        refine x_iadd k231_342 ?_
        refine x_top (fun z71 e_z71 => ?_)
        refine x_scr k231_343 hN ⟨by omega, by omega⟩ (fun z72 g_z72 e_z72 => ?_)
        unfold in32 at g_z72
        have q_z72 : z72 = z64 := by rw [e_z72, e_z64, show z71 = z63 by omega]
        refine x_A k231_344 (fun _ => rfl) ?_
        refine x_A k231_345 (fun _ => rfl) ?_
        refine x_A k231_346 (fun _ => rfl) ?_
        refine x_iadd k231_347 ?_
        refine x_top (fun z73 e_z73 => ?_)
        refine x_scr k231_348 hN ⟨by omega, by omega⟩ (fun z74 g_z74 e_z74 => ?_)
        unfold in32 at g_z74
        have q_z74 : z74 = z66 := by rw [e_z74, e_z66, show z73 = z65 by omega]
        refine x_callV k231_349 (y := 150) (n := 3) (w0 := 0) (w1 := 3) (as := [vi z70, vi z72, vi z74]) (rest := []) (by decide +kernel) (q := 256) (nq := 62) (kq := 15) ⟨by decide, rfl⟩ rfl rfl rfl rfl (xe_mono (C_X11_below_256 s hG i_J z70 (by first | exact x_rbe e_z70 g_z70 rfl rfl | exact x_rb g_z70 rfl rfl | exact ⟨by omega, by omega⟩) z72 (by first | exact x_rbe e_z72 g_z72 rfl rfl | exact x_rb g_z72 rfl rfl | exact ⟨by omega, by omega⟩) z74 (by first | exact x_rbe e_z74 g_z74 rfl rfl | exact x_rb g_z74 rfl rfl | exact ⟨by omega, by omega⟩)) ?_)
        rintro s76 v ⟨-, t_s76, z75, rfl, g_z75⟩
        rw [t_s76.nil]
        show xe (some (N, xs)) 231 352 [(0, .ref 2000), (1, .ref 0), (2, .ref 256), (3, vi x3)] [vi z75] s 295 10442 _
        refine x_A k231_352 (fun _ => rfl) ?_
        refine x_goto k231_353 (t := 1300) rfl ?_
        refine x_iinc k231_1300 (ls' := [(3, vi (x3 + 7)), (0, .ref 2000), (1, .ref 0), (2, .ref 256)]) rfl (by decide) rfl ?_
        refine x_goto k231_1303 (t := 18) rfl ?_
        refine x_ls (l := [(0, .ref 2000), (1, .ref 0), (2, .ref 256), (3, vi (x3 + 7))]) (show ([0, 1, 2, 3] : List Nat).Nodup from by decide +kernel) ⟨rfl, rfl, rfl, rfl, trivial⟩ ?_
        exact ih s (x3 + 7) hG f ⟨by omega, by omega⟩ i_J i_X1  (by omega)
      · rw [c5]
        refine x_B k231_33 rfl (fun _ => rfl) (fun _ => rfl) (fun _ _ => rfl) ?_
        show xe (some (N, xs)) 231 356 [(0, .ref 2000), (1, .ref 0), (2, .ref 256), (3, vi x3)] [] s 295 10442 _
        refine x_A k231_356 (fun _ => rfl) ?_
        refine x_A k231_357 (fun _ => rfl) ?_
        refine x_A k231_358 (fun _ => rfl) ?_
        refine x_A k231_359 (fun _ => rfl) ?_
        refine x_iadd k231_360 ?_
        refine x_top (fun z77 e_z77 => ?_)
        refine x_scr k231_361 hN ⟨by omega, by omega⟩ (fun z78 g_z78 e_z78 => ?_)
        unfold in32 at g_z78
        refine x_A k231_362 (fun _ => rfl) ?_
        refine x_A k231_363 (fun _ => rfl) ?_
        refine x_A k231_364 (fun _ => rfl) ?_
        refine x_iadd k231_365 ?_
        refine x_top (fun z79 e_z79 => ?_)
        refine x_scr k231_366 hN ⟨by omega, by omega⟩ (fun z80 g_z80 e_z80 => ?_)
        unfold in32 at g_z80
        refine x_A k231_367 (fun _ => rfl) ?_
        refine x_A k231_368 (fun _ => rfl) ?_
        refine x_A k231_369 (fun _ => rfl) ?_
        refine x_iadd k231_370 ?_
        refine x_top (fun z81 e_z81 => ?_)
        refine x_scr k231_371 hN ⟨by omega, by omega⟩ (fun z82 g_z82 e_z82 => ?_)
        unfold in32 at g_z82
        refine x_callV k231_372 (y := 97) (n := 3) (w0 := 0) (w1 := 3) (as := [vi z78, vi z80, vi z82]) (rest := []) (by decide +kernel) (q := 0) (nq := 12) (kq := 3) ⟨by decide, rfl⟩ rfl rfl rfl rfl (xe_mono (C_X10_picture_0 s hG z78 (by first | exact x_rbe e_z78 g_z78 rfl rfl | exact x_rb g_z78 rfl rfl | exact ⟨by omega, by omega⟩) z80 (by first | exact x_rbe e_z80 g_z80 rfl rfl | exact x_rb g_z80 rfl rfl | exact ⟨by omega, by omega⟩) z82 (by first | exact x_rbe e_z82 g_z82 rfl rfl | exact x_rb g_z82 rfl rfl | exact ⟨by omega, by omega⟩)) ?_)
        rintro s84 v ⟨hG_s84, t_s84, z83, rfl, g_z83⟩
        have J_s84 : J s84 := J.fl i_J t_s84 (by decide +kernel)
        have X1_s84 : X1 s84 := X1.fl i_X1 t_s84 (by decide +kernel)
        show xe (some (N, xs)) 231 375 [(0, .ref 2000), (1, .ref 0), (2, .ref 256), (3, vi x3)] [vi z83] s84 295 10442 _
        refine x_A k231_375 (fun _ => rfl) ?_
        refine x_A k231_376 (fun _ => rfl) ?_
        refine x_A k231_377 (fun _ => rfl) ?_
        refine x_A k231_378 (fun _ => rfl) ?_
        refine x_A k231_379 (fun _ => rfl) ?_
        refine x_iadd k231_380 ?_
        refine x_top (fun z85 e_z85 => ?_)
        refine x_scr k231_381 hN ⟨by omega, by omega⟩ (fun z86 g_z86 e_z86 => ?_)
        unfold in32 at g_z86
        have q_z86 : z86 = z78 := by rw [e_z86, e_z78, show z85 = z77 by omega]
        refine x_A k231_382 (fun _ => rfl) ?_
        refine x_A k231_383 (fun _ => rfl) ?_
        refine x_A k231_384 (fun _ => rfl) ?_
        refine x_iadd k231_385 ?_
        refine x_top (fun z87 e_z87 => ?_)
        refine x_scr k231_386 hN ⟨by omega, by omega⟩ (fun z88 g_z88 e_z88 => ?_)
        unfold in32 at g_z88
        have q_z88 : z88 = z80 := by rw [e_z88, e_z80, show z87 = z79 by omega]
        refine x_A k231_387 (fun _ => rfl) ?_
        refine x_A k231_388 (fun _ => rfl) ?_
        refine x_A k231_389 (fun _ => rfl) ?_
        refine x_iadd k231_390 ?_
        refine x_top (fun z89 e_z89 => ?_)
        refine x_scr k231_391 hN ⟨by omega, by omega⟩ (fun z90 g_z90 e_z90 => ?_)
        unfold in32 at g_z90
        have q_z90 : z90 = z82 := by rw [e_z90, e_z82, show z89 = z81 by omega]
        refine x_callV k231_392 (y := 154) (n := 3) (w0 := 0) (w1 := 3) (as := [vi z86, vi z88, vi z90]) (rest := []) (by decide +kernel) (q := 256) (nq := 62) (kq := 15) ⟨by decide, rfl⟩ rfl rfl rfl rfl (xe_mono (D_X11_picture_256 s84 hG_s84 z86 (by first | exact x_rbe e_z86 g_z86 rfl rfl | exact x_rb g_z86 rfl rfl | exact ⟨by omega, by omega⟩) z88 (by first | exact x_rbe e_z88 g_z88 rfl rfl | exact x_rb g_z88 rfl rfl | exact ⟨by omega, by omega⟩) z90 (by first | exact x_rbe e_z90 g_z90 rfl rfl | exact x_rb g_z90 rfl rfl | exact ⟨by omega, by omega⟩) J_s84) ?_)
        rintro s92 v ⟨hG_s92, t_s92, z91, rfl, g_z91, J_s92⟩
        have X1_s92 : X1 s92 := X1.fl X1_s84 t_s92 (by decide +kernel)
        show xe (some (N, xs)) 231 395 [(0, .ref 2000), (1, .ref 0), (2, .ref 256), (3, vi x3)] [vi z91] s92 295 10442 _
        refine x_A k231_395 (fun _ => rfl) ?_
        refine x_goto k231_396 (t := 1300) rfl ?_
        refine x_iinc k231_1300 (ls' := [(3, vi (x3 + 7)), (0, .ref 2000), (1, .ref 0), (2, .ref 256)]) rfl (by decide) rfl ?_
        refine x_goto k231_1303 (t := 18) rfl ?_
        refine x_ls (l := [(0, .ref 2000), (1, .ref 0), (2, .ref 256), (3, vi (x3 + 7))]) (show ([0, 1, 2, 3] : List Nat).Nodup from by decide +kernel) ⟨rfl, rfl, rfl, rfl, trivial⟩ ?_
        exact ih s92 (x3 + 7) hG_s92 trivial ⟨by omega, by omega⟩ J_s92 X1_s92  (by omega)
      · rw [c5]
        refine x_B k231_33 rfl (fun _ => rfl) (fun _ => rfl) (fun _ _ => rfl) ?_
        show xe (some (N, xs)) 231 399 [(0, .ref 2000), (1, .ref 0), (2, .ref 256), (3, vi x3)] [] s 295 10442 _
        refine x_A k231_399 (fun _ => rfl) ?_
        refine x_A k231_400 (fun _ => rfl) ?_
        refine x_A k231_401 (fun _ => rfl) ?_
        refine x_A k231_402 (fun _ => rfl) ?_
        refine x_iadd k231_403 ?_
        refine x_top (fun z93 e_z93 => ?_)
        refine x_scr k231_404 hN ⟨by omega, by omega⟩ (fun z94 g_z94 e_z94 => ?_)
        unfold in32 at g_z94
        refine x_A k231_405 (fun _ => rfl) ?_
        refine x_A k231_406 (fun _ => rfl) ?_
        refine x_A k231_407 (fun _ => rfl) ?_
        refine x_iadd k231_408 ?_
        refine x_top (fun z95 e_z95 => ?_)
        refine x_scr k231_409 hN ⟨by omega, by omega⟩ (fun z96 g_z96 e_z96 => ?_)
        unfold in32 at g_z96
        refine x_A k231_410 (fun _ => rfl) ?_
        refine x_A k231_411 (fun _ => rfl) ?_
        refine x_A k231_412 (fun _ => rfl) ?_
        refine x_iadd k231_413 ?_
        refine x_top (fun z97 e_z97 => ?_)
        refine x_scr k231_414 hN ⟨by omega, by omega⟩ (fun z98 g_z98 e_z98 => ?_)
        unfold in32 at g_z98
        refine x_A k231_415 (fun _ => rfl) ?_
        refine x_A k231_416 (fun _ => rfl) ?_
        refine x_A k231_417 (fun _ => rfl) ?_
        refine x_iadd k231_418 ?_
        refine x_top (fun z99 e_z99 => ?_)
        refine x_scr k231_419 hN ⟨by omega, by omega⟩ (fun z100 g_z100 e_z100 => ?_)
        unfold in32 at g_z100
        refine x_callV k231_420 (y := 98) (n := 4) (w0 := 0) (w1 := 4) (as := [vi z94, vi z96, vi z98, vi z100]) (rest := []) (by decide +kernel) (q := 0) (nq := 12) (kq := 3) ⟨by decide, rfl⟩ rfl rfl rfl rfl (xe_mono (C_X10_give_0 s hG z94 (by first | exact x_rbe e_z94 g_z94 rfl rfl | exact x_rb g_z94 rfl rfl | exact ⟨by omega, by omega⟩) z96 (by first | exact x_rbe e_z96 g_z96 rfl rfl | exact x_rb g_z96 rfl rfl | exact ⟨by omega, by omega⟩) z98 (by first | exact x_rbe e_z98 g_z98 rfl rfl | exact x_rb g_z98 rfl rfl | exact ⟨by omega, by omega⟩) z100 (by first | exact x_rbe e_z100 g_z100 rfl rfl | exact x_rb g_z100 rfl rfl | exact ⟨by omega, by omega⟩)) ?_)
        rintro s102 v ⟨hG_s102, t_s102, z101, rfl, g_z101⟩
        have J_s102 : J s102 := J.fl i_J t_s102 (by decide +kernel)
        have X1_s102 : X1 s102 := X1.fl i_X1 t_s102 (by decide +kernel)
        show xe (some (N, xs)) 231 423 [(0, .ref 2000), (1, .ref 0), (2, .ref 256), (3, vi x3)] [vi z101] s102 295 10442 _
        refine x_A k231_423 (fun _ => rfl) ?_
        refine x_A k231_424 (fun _ => rfl) ?_
        refine x_A k231_425 (fun _ => rfl) ?_
        refine x_A k231_426 (fun _ => rfl) ?_
        refine x_A k231_427 (fun _ => rfl) ?_
        refine x_iadd k231_428 ?_
        refine x_top (fun z103 e_z103 => ?_)
        refine x_scr k231_429 hN ⟨by omega, by omega⟩ (fun z104 g_z104 e_z104 => ?_)
        unfold in32 at g_z104
        have q_z104 : z104 = z94 := by rw [e_z104, e_z94, show z103 = z93 by omega]
        refine x_A k231_430 (fun _ => rfl) ?_
        refine x_A k231_431 (fun _ => rfl) ?_
        refine x_A k231_432 (fun _ => rfl) ?_
        refine x_iadd k231_433 ?_
        refine x_top (fun z105 e_z105 => ?_)
        refine x_scr k231_434 hN ⟨by omega, by omega⟩ (fun z106 g_z106 e_z106 => ?_)
        unfold in32 at g_z106
        have q_z106 : z106 = z96 := by rw [e_z106, e_z96, show z105 = z95 by omega]
        refine x_A k231_435 (fun _ => rfl) ?_
        refine x_A k231_436 (fun _ => rfl) ?_
        refine x_A k231_437 (fun _ => rfl) ?_
        refine x_iadd k231_438 ?_
        refine x_top (fun z107 e_z107 => ?_)
        refine x_scr k231_439 hN ⟨by omega, by omega⟩ (fun z108 g_z108 e_z108 => ?_)
        unfold in32 at g_z108
        have q_z108 : z108 = z98 := by rw [e_z108, e_z98, show z107 = z97 by omega]
        refine x_A k231_440 (fun _ => rfl) ?_
        refine x_A k231_441 (fun _ => rfl) ?_
        refine x_A k231_442 (fun _ => rfl) ?_
        refine x_iadd k231_443 ?_
        refine x_top (fun z109 e_z109 => ?_)
        refine x_scr k231_444 hN ⟨by omega, by omega⟩ (fun z110 g_z110 e_z110 => ?_)
        unfold in32 at g_z110
        have q_z110 : z110 = z100 := by rw [e_z110, e_z100, show z109 = z99 by omega]
        refine x_callV k231_445 (y := 155) (n := 4) (w0 := 0) (w1 := 4) (as := [vi z104, vi z106, vi z108, vi z110]) (rest := []) (by decide +kernel) (q := 256) (nq := 62) (kq := 15) ⟨by decide, rfl⟩ rfl rfl rfl rfl (xe_mono (C_X11_give_256 s102 hG_s102 z104 (by first | exact x_rbe e_z104 g_z104 rfl rfl | exact x_rb g_z104 rfl rfl | exact ⟨by omega, by omega⟩) z106 (by first | exact x_rbe e_z106 g_z106 rfl rfl | exact x_rb g_z106 rfl rfl | exact ⟨by omega, by omega⟩) z108 (by first | exact x_rbe e_z108 g_z108 rfl rfl | exact x_rb g_z108 rfl rfl | exact ⟨by omega, by omega⟩) z110 (by first | exact x_rbe e_z110 g_z110 rfl rfl | exact x_rb g_z110 rfl rfl | exact ⟨by omega, by omega⟩)) ?_)
        rintro s112 v ⟨hG_s112, t_s112, z111, rfl, g_z111⟩
        have J_s112 : J s112 := J.fl J_s102 t_s112 (by decide +kernel)
        have X1_s112 : X1 s112 := X1.fl X1_s102 t_s112 (by decide +kernel)
        show xe (some (N, xs)) 231 448 [(0, .ref 2000), (1, .ref 0), (2, .ref 256), (3, vi x3)] [vi z111] s112 295 10442 _
        refine x_A k231_448 (fun _ => rfl) ?_
        refine x_goto k231_449 (t := 1300) rfl ?_
        refine x_iinc k231_1300 (ls' := [(3, vi (x3 + 7)), (0, .ref 2000), (1, .ref 0), (2, .ref 256)]) rfl (by decide) rfl ?_
        refine x_goto k231_1303 (t := 18) rfl ?_
        refine x_ls (l := [(0, .ref 2000), (1, .ref 0), (2, .ref 256), (3, vi (x3 + 7))]) (show ([0, 1, 2, 3] : List Nat).Nodup from by decide +kernel) ⟨rfl, rfl, rfl, rfl, trivial⟩ ?_
        exact ih s112 (x3 + 7) hG_s112 trivial ⟨by omega, by omega⟩ J_s112 X1_s112  (by omega)
      · rw [c5]
        refine x_B k231_33 rfl (fun _ => rfl) (fun _ => rfl) (fun _ _ => rfl) ?_
        show xe (some (N, xs)) 231 452 [(0, .ref 2000), (1, .ref 0), (2, .ref 256), (3, vi x3)] [] s 295 10442 _
        refine x_A k231_452 (fun _ => rfl) ?_
        refine x_A k231_453 (fun _ => rfl) ?_
        refine x_A k231_454 (fun _ => rfl) ?_
        refine x_A k231_455 (fun _ => rfl) ?_
        refine x_iadd k231_456 ?_
        refine x_top (fun z113 e_z113 => ?_)
        refine x_scr k231_457 hN ⟨by omega, by omega⟩ (fun z114 g_z114 e_z114 => ?_)
        unfold in32 at g_z114
        refine x_A k231_458 (fun _ => rfl) ?_
        refine x_A k231_459 (fun _ => rfl) ?_
        refine x_A k231_460 (fun _ => rfl) ?_
        refine x_iadd k231_461 ?_
        refine x_top (fun z115 e_z115 => ?_)
        refine x_scr k231_462 hN ⟨by omega, by omega⟩ (fun z116 g_z116 e_z116 => ?_)
        unfold in32 at g_z116
        refine x_callV k231_463 (y := 99) (n := 2) (w0 := 0) (w1 := 2) (as := [vi z114, vi z116]) (rest := []) (by decide +kernel) (q := 0) (nq := 12) (kq := 3) ⟨by decide, rfl⟩ rfl rfl rfl rfl (xe_mono (C_X10_doubt_0 s hG z114 (by first | exact x_rbe e_z114 g_z114 rfl rfl | exact x_rb g_z114 rfl rfl | exact ⟨by omega, by omega⟩) z116 (by first | exact x_rbe e_z116 g_z116 rfl rfl | exact x_rb g_z116 rfl rfl | exact ⟨by omega, by omega⟩)) ?_)
        rintro s118 v ⟨hG_s118, t_s118, z117, rfl, g_z117⟩
        have J_s118 : J s118 := J.fl i_J t_s118 (by decide +kernel)
        have X1_s118 : X1 s118 := X1.fl i_X1 t_s118 (by decide +kernel)
        show xe (some (N, xs)) 231 466 [(0, .ref 2000), (1, .ref 0), (2, .ref 256), (3, vi x3)] [vi z117] s118 295 10442 _
        refine x_A k231_466 (fun _ => rfl) ?_
        refine x_A k231_467 (fun _ => rfl) ?_
        refine x_A k231_468 (fun _ => rfl) ?_
        refine x_A k231_469 (fun _ => rfl) ?_
        refine x_A k231_470 (fun _ => rfl) ?_
        refine x_iadd k231_471 ?_
        refine x_top (fun z119 e_z119 => ?_)
        refine x_scr k231_472 hN ⟨by omega, by omega⟩ (fun z120 g_z120 e_z120 => ?_)
        unfold in32 at g_z120
        have q_z120 : z120 = z114 := by rw [e_z120, e_z114, show z119 = z113 by omega]
        refine x_A k231_473 (fun _ => rfl) ?_
        refine x_A k231_474 (fun _ => rfl) ?_
        refine x_A k231_475 (fun _ => rfl) ?_
        refine x_iadd k231_476 ?_
        refine x_top (fun z121 e_z121 => ?_)
        refine x_scr k231_477 hN ⟨by omega, by omega⟩ (fun z122 g_z122 e_z122 => ?_)
        unfold in32 at g_z122
        have q_z122 : z122 = z116 := by rw [e_z122, e_z116, show z121 = z115 by omega]
        refine x_callV k231_478 (y := 157) (n := 2) (w0 := 0) (w1 := 2) (as := [vi z120, vi z122]) (rest := []) (by decide +kernel) (q := 256) (nq := 62) (kq := 15) ⟨by decide, rfl⟩ rfl rfl rfl rfl (xe_mono (C_X11_doubt_256 s118 hG_s118 z120 (by first | exact x_rbe e_z120 g_z120 rfl rfl | exact x_rb g_z120 rfl rfl | exact ⟨by omega, by omega⟩) z122 (by first | exact x_rbe e_z122 g_z122 rfl rfl | exact x_rb g_z122 rfl rfl | exact ⟨by omega, by omega⟩)) ?_)
        rintro s124 v ⟨hG_s124, t_s124, z123, rfl, g_z123⟩
        have J_s124 : J s124 := J.fl J_s118 t_s124 (by decide +kernel)
        have X1_s124 : X1 s124 := X1.fl X1_s118 t_s124 (by decide +kernel)
        show xe (some (N, xs)) 231 481 [(0, .ref 2000), (1, .ref 0), (2, .ref 256), (3, vi x3)] [vi z123] s124 295 10442 _
        refine x_A k231_481 (fun _ => rfl) ?_
        refine x_goto k231_482 (t := 1300) rfl ?_
        refine x_iinc k231_1300 (ls' := [(3, vi (x3 + 7)), (0, .ref 2000), (1, .ref 0), (2, .ref 256)]) rfl (by decide) rfl ?_
        refine x_goto k231_1303 (t := 18) rfl ?_
        refine x_ls (l := [(0, .ref 2000), (1, .ref 0), (2, .ref 256), (3, vi (x3 + 7))]) (show ([0, 1, 2, 3] : List Nat).Nodup from by decide +kernel) ⟨rfl, rfl, rfl, rfl, trivial⟩ ?_
        exact ih s124 (x3 + 7) hG_s124 trivial ⟨by omega, by omega⟩ J_s124 X1_s124  (by omega)
      · rw [c5]
        refine x_B k231_33 rfl (fun _ => rfl) (fun _ => rfl) (fun _ _ => rfl) ?_
        show xe (some (N, xs)) 231 485 [(0, .ref 2000), (1, .ref 0), (2, .ref 256), (3, vi x3)] [] s 295 10442 _
        refine x_A k231_485 (fun _ => rfl) ?_
        refine x_A k231_486 (fun _ => rfl) ?_
        refine x_A k231_487 (fun _ => rfl) ?_
        refine x_A k231_488 (fun _ => rfl) ?_
        refine x_iadd k231_489 ?_
        refine x_top (fun z125 e_z125 => ?_)
        refine x_scr k231_490 hN ⟨by omega, by omega⟩ (fun z126 g_z126 e_z126 => ?_)
        unfold in32 at g_z126
        refine x_A k231_491 (fun _ => rfl) ?_
        refine x_A k231_492 (fun _ => rfl) ?_
        refine x_A k231_493 (fun _ => rfl) ?_
        refine x_iadd k231_494 ?_
        refine x_top (fun z127 e_z127 => ?_)
        refine x_scr k231_495 hN ⟨by omega, by omega⟩ (fun z128 g_z128 e_z128 => ?_)
        unfold in32 at g_z128
        refine x_callV k231_496 (y := 100) (n := 2) (w0 := 0) (w1 := 2) (as := [vi z126, vi z128]) (rest := []) (by decide +kernel) (q := 0) (nq := 12) (kq := 3) ⟨by decide, rfl⟩ rfl rfl rfl rfl (xe_mono (C_X10_told_0 s hG i_J z126 (by first | exact x_rbe e_z126 g_z126 rfl rfl | exact x_rb g_z126 rfl rfl | exact ⟨by omega, by omega⟩) z128 (by first | exact x_rbe e_z128 g_z128 rfl rfl | exact x_rb g_z128 rfl rfl | exact ⟨by omega, by omega⟩)) ?_)
        rintro s130 v ⟨hG_s130, t_s130, z129, rfl, g_z129⟩
        have J_s130 : J s130 := J.fl i_J t_s130 (by decide +kernel)
        have X1_s130 : X1 s130 := X1.fl i_X1 t_s130 (by decide +kernel)
        show xe (some (N, xs)) 231 499 [(0, .ref 2000), (1, .ref 0), (2, .ref 256), (3, vi x3)] [vi z129] s130 295 10442 _
        refine x_A k231_499 (fun _ => rfl) ?_
        refine x_A k231_500 (fun _ => rfl) ?_
        refine x_A k231_501 (fun _ => rfl) ?_
        refine x_A k231_502 (fun _ => rfl) ?_
        refine x_A k231_503 (fun _ => rfl) ?_
        refine x_iadd k231_504 ?_
        refine x_top (fun z131 e_z131 => ?_)
        refine x_scr k231_505 hN ⟨by omega, by omega⟩ (fun z132 g_z132 e_z132 => ?_)
        unfold in32 at g_z132
        have q_z132 : z132 = z126 := by rw [e_z132, e_z126, show z131 = z125 by omega]
        refine x_A k231_506 (fun _ => rfl) ?_
        refine x_A k231_507 (fun _ => rfl) ?_
        refine x_A k231_508 (fun _ => rfl) ?_
        refine x_iadd k231_509 ?_
        refine x_top (fun z133 e_z133 => ?_)
        refine x_scr k231_510 hN ⟨by omega, by omega⟩ (fun z134 g_z134 e_z134 => ?_)
        unfold in32 at g_z134
        have q_z134 : z134 = z128 := by rw [e_z134, e_z128, show z133 = z127 by omega]
        refine x_callV k231_511 (y := 158) (n := 2) (w0 := 0) (w1 := 2) (as := [vi z132, vi z134]) (rest := []) (by decide +kernel) (q := 256) (nq := 62) (kq := 15) ⟨by decide, rfl⟩ rfl rfl rfl rfl (xe_mono (C_X11_told_256 s130 hG_s130 J_s130 z132 (by first | exact x_rbe e_z132 g_z132 rfl rfl | exact x_rb g_z132 rfl rfl | exact ⟨by omega, by omega⟩) z134 (by first | exact x_rbe e_z134 g_z134 rfl rfl | exact x_rb g_z134 rfl rfl | exact ⟨by omega, by omega⟩)) ?_)
        rintro s136 v ⟨hG_s136, t_s136, z135, rfl, g_z135⟩
        have J_s136 : J s136 := J.fl J_s130 t_s136 (by decide +kernel)
        have X1_s136 : X1 s136 := X1.fl X1_s130 t_s136 (by decide +kernel)
        show xe (some (N, xs)) 231 514 [(0, .ref 2000), (1, .ref 0), (2, .ref 256), (3, vi x3)] [vi z135] s136 295 10442 _
        refine x_A k231_514 (fun _ => rfl) ?_
        refine x_goto k231_515 (t := 1300) rfl ?_
        refine x_iinc k231_1300 (ls' := [(3, vi (x3 + 7)), (0, .ref 2000), (1, .ref 0), (2, .ref 256)]) rfl (by decide) rfl ?_
        refine x_goto k231_1303 (t := 18) rfl ?_
        refine x_ls (l := [(0, .ref 2000), (1, .ref 0), (2, .ref 256), (3, vi (x3 + 7))]) (show ([0, 1, 2, 3] : List Nat).Nodup from by decide +kernel) ⟨rfl, rfl, rfl, rfl, trivial⟩ ?_
        exact ih s136 (x3 + 7) hG_s136 trivial ⟨by omega, by omega⟩ J_s136 X1_s136  (by omega)
      · rw [c5]
        refine x_B k231_33 rfl (fun _ => rfl) (fun _ => rfl) (fun _ _ => rfl) ?_
        show xe (some (N, xs)) 231 518 [(0, .ref 2000), (1, .ref 0), (2, .ref 256), (3, vi x3)] [] s 295 10442 _
        refine x_A k231_518 (fun _ => rfl) ?_
        refine x_A k231_519 (fun _ => rfl) ?_
        refine x_A k231_520 (fun _ => rfl) ?_
        refine x_A k231_521 (fun _ => rfl) ?_
        refine x_iadd k231_522 ?_
        refine x_top (fun z137 e_z137 => ?_)
        refine x_scr k231_523 hN ⟨by omega, by omega⟩ (fun z138 g_z138 e_z138 => ?_)
        unfold in32 at g_z138
        refine x_A k231_524 (fun _ => rfl) ?_
        refine x_A k231_525 (fun _ => rfl) ?_
        refine x_A k231_526 (fun _ => rfl) ?_
        refine x_iadd k231_527 ?_
        refine x_top (fun z139 e_z139 => ?_)
        refine x_scr k231_528 hN ⟨by omega, by omega⟩ (fun z140 g_z140 e_z140 => ?_)
        unfold in32 at g_z140
        refine x_A k231_529 (fun _ => rfl) ?_
        refine x_A k231_530 (fun _ => rfl) ?_
        refine x_A k231_531 (fun _ => rfl) ?_
        refine x_iadd k231_532 ?_
        refine x_top (fun z141 e_z141 => ?_)
        refine x_scr k231_533 hN ⟨by omega, by omega⟩ (fun z142 g_z142 e_z142 => ?_)
        unfold in32 at g_z142
        refine x_callV k231_534 (y := 101) (n := 3) (w0 := 0) (w1 := 3) (as := [vi z138, vi z140, vi z142]) (rest := []) (by decide +kernel) (q := 0) (nq := 12) (kq := 3) ⟨by decide, rfl⟩ rfl rfl rfl rfl (xe_mono (C_X10_means_0 s hG i_J z138 (by first | exact x_rbe e_z138 g_z138 rfl rfl | exact x_rb g_z138 rfl rfl | exact ⟨by omega, by omega⟩) z140 (by first | exact x_rbe e_z140 g_z140 rfl rfl | exact x_rb g_z140 rfl rfl | exact ⟨by omega, by omega⟩) z142 (by first | exact x_rbe e_z142 g_z142 rfl rfl | exact x_rb g_z142 rfl rfl | exact ⟨by omega, by omega⟩)) ?_)
        rintro s144 v ⟨hG_s144, t_s144, z143, rfl, g_z143⟩
        have J_s144 : J s144 := J.fl i_J t_s144 (by decide +kernel)
        have X1_s144 : X1 s144 := X1.fl i_X1 t_s144 (by decide +kernel)
        show xe (some (N, xs)) 231 537 [(0, .ref 2000), (1, .ref 0), (2, .ref 256), (3, vi x3)] [vi z143] s144 295 10442 _
        refine x_A k231_537 (fun _ => rfl) ?_
        refine x_A k231_538 (fun _ => rfl) ?_
        refine x_A k231_539 (fun _ => rfl) ?_
        refine x_A k231_540 (fun _ => rfl) ?_
        refine x_A k231_541 (fun _ => rfl) ?_
        refine x_iadd k231_542 ?_
        refine x_top (fun z145 e_z145 => ?_)
        refine x_scr k231_543 hN ⟨by omega, by omega⟩ (fun z146 g_z146 e_z146 => ?_)
        unfold in32 at g_z146
        have q_z146 : z146 = z138 := by rw [e_z146, e_z138, show z145 = z137 by omega]
        refine x_A k231_544 (fun _ => rfl) ?_
        refine x_A k231_545 (fun _ => rfl) ?_
        refine x_A k231_546 (fun _ => rfl) ?_
        refine x_iadd k231_547 ?_
        refine x_top (fun z147 e_z147 => ?_)
        refine x_scr k231_548 hN ⟨by omega, by omega⟩ (fun z148 g_z148 e_z148 => ?_)
        unfold in32 at g_z148
        have q_z148 : z148 = z140 := by rw [e_z148, e_z140, show z147 = z139 by omega]
        refine x_A k231_549 (fun _ => rfl) ?_
        refine x_A k231_550 (fun _ => rfl) ?_
        refine x_A k231_551 (fun _ => rfl) ?_
        refine x_iadd k231_552 ?_
        refine x_top (fun z149 e_z149 => ?_)
        refine x_scr k231_553 hN ⟨by omega, by omega⟩ (fun z150 g_z150 e_z150 => ?_)
        unfold in32 at g_z150
        have q_z150 : z150 = z142 := by rw [e_z150, e_z142, show z149 = z141 by omega]
        refine x_callV k231_554 (y := 172) (n := 3) (w0 := 0) (w1 := 3) (as := [vi z146, vi z148, vi z150]) (rest := []) (by decide +kernel) (q := 256) (nq := 62) (kq := 15) ⟨by decide, rfl⟩ rfl rfl rfl rfl (xe_mono (C_X11_means_256 s144 hG_s144 J_s144 z146 (by first | exact x_rbe e_z146 g_z146 rfl rfl | exact x_rb g_z146 rfl rfl | exact ⟨by omega, by omega⟩) z148 (by first | exact x_rbe e_z148 g_z148 rfl rfl | exact x_rb g_z148 rfl rfl | exact ⟨by omega, by omega⟩) z150 (by first | exact x_rbe e_z150 g_z150 rfl rfl | exact x_rb g_z150 rfl rfl | exact ⟨by omega, by omega⟩)) ?_)
        rintro s152 v ⟨hG_s152, t_s152, z151, rfl, g_z151⟩
        have J_s152 : J s152 := J.fl J_s144 t_s152 (by decide +kernel)
        have X1_s152 : X1 s152 := X1.fl X1_s144 t_s152 (by decide +kernel)
        show xe (some (N, xs)) 231 557 [(0, .ref 2000), (1, .ref 0), (2, .ref 256), (3, vi x3)] [vi z151] s152 295 10442 _
        refine x_A k231_557 (fun _ => rfl) ?_
        refine x_goto k231_558 (t := 1300) rfl ?_
        refine x_iinc k231_1300 (ls' := [(3, vi (x3 + 7)), (0, .ref 2000), (1, .ref 0), (2, .ref 256)]) rfl (by decide) rfl ?_
        refine x_goto k231_1303 (t := 18) rfl ?_
        refine x_ls (l := [(0, .ref 2000), (1, .ref 0), (2, .ref 256), (3, vi (x3 + 7))]) (show ([0, 1, 2, 3] : List Nat).Nodup from by decide +kernel) ⟨rfl, rfl, rfl, rfl, trivial⟩ ?_
        exact ih s152 (x3 + 7) hG_s152 trivial ⟨by omega, by omega⟩ J_s152 X1_s152  (by omega)
      · rw [c5]
        refine x_B k231_33 rfl (fun _ => rfl) (fun _ => rfl) (fun _ _ => rfl) ?_
        show xe (some (N, xs)) 231 561 [(0, .ref 2000), (1, .ref 0), (2, .ref 256), (3, vi x3)] [] s 295 10442 _
        refine x_A k231_561 (fun _ => rfl) ?_
        refine x_A k231_562 (fun _ => rfl) ?_
        refine x_A k231_563 (fun _ => rfl) ?_
        refine x_A k231_564 (fun _ => rfl) ?_
        refine x_iadd k231_565 ?_
        refine x_top (fun z153 e_z153 => ?_)
        refine x_scr k231_566 hN ⟨by omega, by omega⟩ (fun z154 g_z154 e_z154 => ?_)
        unfold in32 at g_z154
        refine x_A k231_567 (fun _ => rfl) ?_
        refine x_A k231_568 (fun _ => rfl) ?_
        refine x_A k231_569 (fun _ => rfl) ?_
        refine x_iadd k231_570 ?_
        refine x_top (fun z155 e_z155 => ?_)
        refine x_scr k231_571 hN ⟨by omega, by omega⟩ (fun z156 g_z156 e_z156 => ?_)
        unfold in32 at g_z156
        refine x_A k231_572 (fun _ => rfl) ?_
        refine x_A k231_573 (fun _ => rfl) ?_
        refine x_A k231_574 (fun _ => rfl) ?_
        refine x_iadd k231_575 ?_
        refine x_top (fun z157 e_z157 => ?_)
        refine x_scr k231_576 hN ⟨by omega, by omega⟩ (fun z158 g_z158 e_z158 => ?_)
        unfold in32 at g_z158
        refine x_callV k231_577 (y := 102) (n := 3) (w0 := 0) (w1 := 3) (as := [vi z154, vi z156, vi z158]) (rest := []) (by decide +kernel) (q := 0) (nq := 12) (kq := 3) ⟨by decide, rfl⟩ rfl rfl rfl rfl (xe_mono (C_X10_led_0 s hG i_J z154 (by first | exact x_rbe e_z154 g_z154 rfl rfl | exact x_rb g_z154 rfl rfl | exact ⟨by omega, by omega⟩) z156 (by first | exact x_rbe e_z156 g_z156 rfl rfl | exact x_rb g_z156 rfl rfl | exact ⟨by omega, by omega⟩) z158 (by first | exact x_rbe e_z158 g_z158 rfl rfl | exact x_rb g_z158 rfl rfl | exact ⟨by omega, by omega⟩)) ?_)
        rintro s160 v ⟨hG_s160, t_s160, z159, rfl, g_z159⟩
        have J_s160 : J s160 := J.fl i_J t_s160 (by decide +kernel)
        have X1_s160 : X1 s160 := X1.fl i_X1 t_s160 (by decide +kernel)
        show xe (some (N, xs)) 231 580 [(0, .ref 2000), (1, .ref 0), (2, .ref 256), (3, vi x3)] [vi z159] s160 295 10442 _
        refine x_A k231_580 (fun _ => rfl) ?_
        refine x_A k231_581 (fun _ => rfl) ?_
        refine x_A k231_582 (fun _ => rfl) ?_
        refine x_A k231_583 (fun _ => rfl) ?_
        refine x_A k231_584 (fun _ => rfl) ?_
        refine x_iadd k231_585 ?_
        refine x_top (fun z161 e_z161 => ?_)
        refine x_scr k231_586 hN ⟨by omega, by omega⟩ (fun z162 g_z162 e_z162 => ?_)
        unfold in32 at g_z162
        have q_z162 : z162 = z154 := by rw [e_z162, e_z154, show z161 = z153 by omega]
        refine x_A k231_587 (fun _ => rfl) ?_
        refine x_A k231_588 (fun _ => rfl) ?_
        refine x_A k231_589 (fun _ => rfl) ?_
        refine x_iadd k231_590 ?_
        refine x_top (fun z163 e_z163 => ?_)
        refine x_scr k231_591 hN ⟨by omega, by omega⟩ (fun z164 g_z164 e_z164 => ?_)
        unfold in32 at g_z164
        have q_z164 : z164 = z156 := by rw [e_z164, e_z156, show z163 = z155 by omega]
        refine x_A k231_592 (fun _ => rfl) ?_
        refine x_A k231_593 (fun _ => rfl) ?_
        refine x_A k231_594 (fun _ => rfl) ?_
        refine x_iadd k231_595 ?_
        refine x_top (fun z165 e_z165 => ?_)
        refine x_scr k231_596 hN ⟨by omega, by omega⟩ (fun z166 g_z166 e_z166 => ?_)
        unfold in32 at g_z166
        have q_z166 : z166 = z158 := by rw [e_z166, e_z158, show z165 = z157 by omega]
        refine x_callV k231_597 (y := 173) (n := 3) (w0 := 0) (w1 := 3) (as := [vi z162, vi z164, vi z166]) (rest := []) (by decide +kernel) (q := 256) (nq := 62) (kq := 15) ⟨by decide, rfl⟩ rfl rfl rfl rfl (xe_mono (C_X11_led_256 s160 hG_s160 J_s160 z162 (by first | exact x_rbe e_z162 g_z162 rfl rfl | exact x_rb g_z162 rfl rfl | exact ⟨by omega, by omega⟩) z164 (by first | exact x_rbe e_z164 g_z164 rfl rfl | exact x_rb g_z164 rfl rfl | exact ⟨by omega, by omega⟩) z166 (by first | exact x_rbe e_z166 g_z166 rfl rfl | exact x_rb g_z166 rfl rfl | exact ⟨by omega, by omega⟩)) ?_)
        rintro s168 v ⟨hG_s168, t_s168, z167, rfl, g_z167⟩
        have J_s168 : J s168 := J.fl J_s160 t_s168 (by decide +kernel)
        have X1_s168 : X1 s168 := X1.fl X1_s160 t_s168 (by decide +kernel)
        show xe (some (N, xs)) 231 600 [(0, .ref 2000), (1, .ref 0), (2, .ref 256), (3, vi x3)] [vi z167] s168 295 10442 _
        refine x_A k231_600 (fun _ => rfl) ?_
        refine x_goto k231_601 (t := 1300) rfl ?_
        refine x_iinc k231_1300 (ls' := [(3, vi (x3 + 7)), (0, .ref 2000), (1, .ref 0), (2, .ref 256)]) rfl (by decide) rfl ?_
        refine x_goto k231_1303 (t := 18) rfl ?_
        refine x_ls (l := [(0, .ref 2000), (1, .ref 0), (2, .ref 256), (3, vi (x3 + 7))]) (show ([0, 1, 2, 3] : List Nat).Nodup from by decide +kernel) ⟨rfl, rfl, rfl, rfl, trivial⟩ ?_
        exact ih s168 (x3 + 7) hG_s168 trivial ⟨by omega, by omega⟩ J_s168 X1_s168  (by omega)
      · rw [c5]
        refine x_B k231_33 rfl (fun _ => rfl) (fun _ => rfl) (fun _ _ => rfl) ?_
        show xe (some (N, xs)) 231 604 [(0, .ref 2000), (1, .ref 0), (2, .ref 256), (3, vi x3)] [] s 295 10442 _
        refine x_A k231_604 (fun _ => rfl) ?_
        refine x_A k231_605 (fun _ => rfl) ?_
        refine x_A k231_606 (fun _ => rfl) ?_
        refine x_A k231_607 (fun _ => rfl) ?_
        refine x_iadd k231_608 ?_
        refine x_top (fun z169 e_z169 => ?_)
        refine x_scr k231_609 hN ⟨by omega, by omega⟩ (fun z170 g_z170 e_z170 => ?_)
        unfold in32 at g_z170
        refine x_callV k231_610 (y := 103) (n := 1) (w0 := 0) (w1 := 1) (as := [vi z170]) (rest := []) (by decide +kernel) (q := 0) (nq := 12) (kq := 3) ⟨by decide, rfl⟩ rfl rfl rfl rfl (xe_mono (C_X10_count_0 s hG i_J z170 (by first | exact x_rbe e_z170 g_z170 rfl rfl | exact x_rb g_z170 rfl rfl | exact ⟨by omega, by omega⟩)) ?_)
        rintro s172 v ⟨hG_s172, t_s172, z171, rfl, g_z171⟩
        have J_s172 : J s172 := J.fl i_J t_s172 (by decide +kernel)
        have X1_s172 : X1 s172 := X1.fl i_X1 t_s172 (by decide +kernel)
        show xe (some (N, xs)) 231 613 [(0, .ref 2000), (1, .ref 0), (2, .ref 256), (3, vi x3)] [vi z171] s172 295 10442 _
        refine x_A k231_613 (fun _ => rfl) ?_
        refine x_A k231_614 (fun _ => rfl) ?_
        refine x_A k231_615 (fun _ => rfl) ?_
        refine x_A k231_616 (fun _ => rfl) ?_
        refine x_A k231_617 (fun _ => rfl) ?_
        refine x_iadd k231_618 ?_
        refine x_top (fun z173 e_z173 => ?_)
        refine x_scr k231_619 hN ⟨by omega, by omega⟩ (fun z174 g_z174 e_z174 => ?_)
        unfold in32 at g_z174
        have q_z174 : z174 = z170 := by rw [e_z174, e_z170, show z173 = z169 by omega]
        refine x_callV k231_620 (y := 174) (n := 1) (w0 := 0) (w1 := 1) (as := [vi z174]) (rest := []) (by decide +kernel) (q := 256) (nq := 62) (kq := 15) ⟨by decide, rfl⟩ rfl rfl rfl rfl (xe_mono (C_X11_count_256 s172 hG_s172 J_s172 z174 (by first | exact x_rbe e_z174 g_z174 rfl rfl | exact x_rb g_z174 rfl rfl | exact ⟨by omega, by omega⟩)) ?_)
        rintro s176 v ⟨hG_s176, t_s176, z175, rfl, g_z175⟩
        have J_s176 : J s176 := J.fl J_s172 t_s176 (by decide +kernel)
        have X1_s176 : X1 s176 := X1.fl X1_s172 t_s176 (by decide +kernel)
        show xe (some (N, xs)) 231 623 [(0, .ref 2000), (1, .ref 0), (2, .ref 256), (3, vi x3)] [vi z175] s176 295 10442 _
        refine x_A k231_623 (fun _ => rfl) ?_
        refine x_goto k231_624 (t := 1300) rfl ?_
        refine x_iinc k231_1300 (ls' := [(3, vi (x3 + 7)), (0, .ref 2000), (1, .ref 0), (2, .ref 256)]) rfl (by decide) rfl ?_
        refine x_goto k231_1303 (t := 18) rfl ?_
        refine x_ls (l := [(0, .ref 2000), (1, .ref 0), (2, .ref 256), (3, vi (x3 + 7))]) (show ([0, 1, 2, 3] : List Nat).Nodup from by decide +kernel) ⟨rfl, rfl, rfl, rfl, trivial⟩ ?_
        exact ih s176 (x3 + 7) hG_s176 trivial ⟨by omega, by omega⟩ J_s176 X1_s176  (by omega)
      · rw [c5]
        refine x_B k231_33 rfl (fun _ => rfl) (fun _ => rfl) (fun _ _ => rfl) ?_
        show xe (some (N, xs)) 231 627 [(0, .ref 2000), (1, .ref 0), (2, .ref 256), (3, vi x3)] [] s 295 10442 _
        refine x_A k231_627 (fun _ => rfl) ?_
        refine x_A k231_628 (fun _ => rfl) ?_
        refine x_A k231_629 (fun _ => rfl) ?_
        refine x_A k231_630 (fun _ => rfl) ?_
        refine x_iadd k231_631 ?_
        refine x_top (fun z177 e_z177 => ?_)
        refine x_scr k231_632 hN ⟨by omega, by omega⟩ (fun z178 g_z178 e_z178 => ?_)
        unfold in32 at g_z178
        refine x_A k231_633 (fun _ => rfl) ?_
        refine x_A k231_634 (fun _ => rfl) ?_
        refine x_A k231_635 (fun _ => rfl) ?_
        refine x_iadd k231_636 ?_
        refine x_top (fun z179 e_z179 => ?_)
        refine x_scr k231_637 hN ⟨by omega, by omega⟩ (fun z180 g_z180 e_z180 => ?_)
        unfold in32 at g_z180
        refine x_i2l k231_638 (by first | exact x_rbe e_z180 g_z180 rfl rfl | exact x_rb g_z180 rfl rfl | exact ⟨by omega, by omega⟩) ?_
        refine x_bipush k231_639 (by decide +kernel) ?_
        refine x_lshl_f k231_641 (fun z181 b_z181 e_z181 => ?_)
        refine x_A k231_642 (fun _ => rfl) ?_
        refine x_A k231_643 (fun _ => rfl) ?_
        refine x_A k231_644 (fun _ => rfl) ?_
        refine x_iadd k231_645 ?_
        refine x_top (fun z182 e_z182 => ?_)
        refine x_scr k231_646 hN ⟨by omega, by omega⟩ (fun z183 g_z183 e_z183 => ?_)
        unfold in32 at g_z183
        refine x_i2l k231_647 (by first | exact x_rbe e_z183 g_z183 rfl rfl | exact x_rb g_z183 rfl rfl | exact ⟨by omega, by omega⟩) ?_
        refine x_ldc2 k231_648 (z := 4294967295) rfl (by decide +kernel) ?_
        refine x_land_f k231_651 (fun z184 b_z184 e_z184 => ?_)
        refine x_lor_f k231_652 (fun z185 b_z185 e_z185 => ?_)
        refine x_callV k231_653 (y := 104) (n := 2) (w0 := 0) (w1 := 3) (as := [vi z178, vj z185]) (rest := []) (by decide +kernel) (q := 0) (nq := 12) (kq := 3) ⟨by decide, rfl⟩ rfl rfl rfl rfl (xe_mono (E_X10_feed_0 s hG z178 (by first | exact x_rbe e_z178 g_z178 rfl rfl | exact x_rb g_z178 rfl rfl | exact ⟨by omega, by omega⟩) z185 b_z185) ?_)
        rintro s187 v ⟨hG_s187, t_s187, z186, rfl, g_z186, xp_z186⟩
        have J_s187 : J s187 := J.fl i_J t_s187 (by decide +kernel)
        obtain ⟨z188, e_z188⟩ : ∃ z, z = s187 177 1 := ⟨_, rfl⟩
        have g_z188 : (0 : Int) ≤ s187 177 1 ∧ s187 177 1 ≤ 160 := hG_s187 177 1
        show xe (some (N, xs)) 231 656 [(0, .ref 2000), (1, .ref 0), (2, .ref 256), (3, vi x3)] [vi z186] s187 295 10442 _
        refine x_A k231_656 (fun _ => rfl) ?_
        refine x_A k231_657 (fun _ => rfl) ?_
        refine x_A k231_658 (fun _ => rfl) ?_
        refine x_A k231_659 (fun _ => rfl) ?_
        refine x_A k231_660 (fun _ => rfl) ?_
        refine x_iadd k231_661 ?_
        refine x_top (fun z189 e_z189 => ?_)
        refine x_scr k231_662 hN ⟨by omega, by omega⟩ (fun z190 g_z190 e_z190 => ?_)
        unfold in32 at g_z190
        have q_z190 : z190 = z178 := by rw [e_z190, e_z178, show z189 = z177 by omega]
        refine x_A k231_663 (fun _ => rfl) ?_
        refine x_A k231_664 (fun _ => rfl) ?_
        refine x_A k231_665 (fun _ => rfl) ?_
        refine x_iadd k231_666 ?_
        refine x_top (fun z191 e_z191 => ?_)
        refine x_scr k231_667 hN ⟨by omega, by omega⟩ (fun z192 g_z192 e_z192 => ?_)
        unfold in32 at g_z192
        have q_z192 : z192 = z180 := by rw [e_z192, e_z180, show z191 = z179 by omega]
        refine x_i2l k231_668 (by first | exact x_rbe e_z192 g_z192 rfl rfl | exact x_rb g_z192 rfl rfl | exact ⟨by omega, by omega⟩) ?_
        refine x_bipush k231_669 (by decide +kernel) ?_
        refine x_lshl_f k231_671 (fun z193 b_z193 e_z193 => ?_)
        refine x_A k231_672 (fun _ => rfl) ?_
        refine x_A k231_673 (fun _ => rfl) ?_
        refine x_A k231_674 (fun _ => rfl) ?_
        refine x_iadd k231_675 ?_
        refine x_top (fun z194 e_z194 => ?_)
        refine x_scr k231_676 hN ⟨by omega, by omega⟩ (fun z195 g_z195 e_z195 => ?_)
        unfold in32 at g_z195
        have q_z195 : z195 = z183 := by rw [e_z195, e_z183, show z194 = z182 by omega]
        refine x_i2l k231_677 (by first | exact x_rbe e_z195 g_z195 rfl rfl | exact x_rb g_z195 rfl rfl | exact ⟨by omega, by omega⟩) ?_
        refine x_ldc2 k231_678 (z := 4294967295) rfl (by decide +kernel) ?_
        refine x_land_f k231_681 (fun z196 b_z196 e_z196 => ?_)
        refine x_lor_f k231_682 (fun z197 b_z197 e_z197 => ?_)
        refine x_callV k231_683 (y := 175) (n := 2) (w0 := 0) (w1 := 3) (as := [vi z190, vj z197]) (rest := []) (by decide +kernel) (q := 256) (nq := 62) (kq := 15) ⟨by decide, rfl⟩ rfl rfl rfl rfl (xe_mono (E_X11_feed_256 s187 hG_s187 z190 (by first | exact x_rbe e_z190 g_z190 rfl rfl | exact x_rb g_z190 rfl rfl | exact ⟨by omega, by omega⟩) z197 b_z197) ?_)
        rintro s199 v ⟨hG_s199, t_s199, z198, rfl, g_z198, xp_z198⟩
        have q200 : s199 177 1 = z188 := (t_s199 177 1 (show 1218 ∉ [4131, 5824] from by decide +kernel)).trans e_z188.symm
        have J_s199 : J s199 := J.fl J_s187 t_s199 (by decide +kernel)
        obtain ⟨z201, e_z201⟩ : ∃ z, z = s199 256 34 := ⟨_, rfl⟩
        have g_z201 : (0 : Int) ≤ s199 256 34 ∧ s199 256 34 ≤ 160 := hG_s199 256 34
        show xe (some (N, xs)) 231 686 [(0, .ref 2000), (1, .ref 0), (2, .ref 256), (3, vi x3)] [vi z198] s199 295 10442 _
        have q_z197 : z197 = z185 := by rw [e_z197, e_z185, e_z193, e_z181, e_z196, e_z184, q_z192, q_z195]
        obtain ⟨ez_s199, X1_s199⟩ := X1.feed i_X1 t_s187 t_s199 (by decide) (by decide) xp_z186 (by rw [← q_z190, ← q_z197]; exact xp_z198)
        refine x_A k231_686 (fun _ => rfl) ?_
        refine x_goto k231_687 (t := 1300) rfl ?_
        refine x_iinc k231_1300 (ls' := [(3, vi (x3 + 7)), (0, .ref 2000), (1, .ref 0), (2, .ref 256)]) rfl (by decide) rfl ?_
        refine x_goto k231_1303 (t := 18) rfl ?_
        refine x_ls (l := [(0, .ref 2000), (1, .ref 0), (2, .ref 256), (3, vi (x3 + 7))]) (show ([0, 1, 2, 3] : List Nat).Nodup from by decide +kernel) ⟨rfl, rfl, rfl, rfl, trivial⟩ ?_
        exact ih s199 (x3 + 7) hG_s199 trivial ⟨by omega, by omega⟩ J_s199 X1_s199  (by omega)
      · rw [c5]
        refine x_B k231_33 rfl (fun _ => rfl) (fun _ => rfl) (fun _ _ => rfl) ?_
        show xe (some (N, xs)) 231 690 [(0, .ref 2000), (1, .ref 0), (2, .ref 256), (3, vi x3)] [] s 295 10442 _
        refine x_A k231_690 (fun _ => rfl) ?_
        refine x_A k231_691 (fun _ => rfl) ?_
        refine x_A k231_692 (fun _ => rfl) ?_
        refine x_A k231_693 (fun _ => rfl) ?_
        refine x_iadd k231_694 ?_
        refine x_top (fun z202 e_z202 => ?_)
        refine x_scr k231_695 hN ⟨by omega, by omega⟩ (fun z203 g_z203 e_z203 => ?_)
        unfold in32 at g_z203
        refine x_callV k231_696 (y := 105) (n := 1) (w0 := 0) (w1 := 1) (as := [vi z203]) (rest := []) (by decide +kernel) (q := 0) (nq := 12) (kq := 3) ⟨by decide, rfl⟩ rfl rfl rfl rfl (xe_mono (E_X10_rule_0 s hG z203 (by first | exact x_rbe e_z203 g_z203 rfl rfl | exact x_rb g_z203 rfl rfl | exact ⟨by omega, by omega⟩) i_J) ?_)
        rintro s205 v ⟨hG_s205, t_s205, z204, rfl, g_z204, xp_z204, J_s205⟩
        obtain ⟨z206, e_z206⟩ : ∃ z, z = s205 177 1 := ⟨_, rfl⟩
        have g_z206 : (0 : Int) ≤ s205 177 1 ∧ s205 177 1 ≤ 160 := hG_s205 177 1
        obtain ⟨z207, e_z207⟩ : ∃ z, z = s205 177 5 := ⟨_, rfl⟩
        have g_z207 : (0 : Int) ≤ s205 177 5 ∧ s205 177 5 ≤ 5 := hG_s205 177 5
        obtain ⟨z208, e_z208⟩ : ∃ z, z = s205 177 6 := ⟨_, rfl⟩
        have g_z208 : (-2147483648) ≤ s205 177 6 ∧ s205 177 6 ≤ 2147483647 := hG_s205 177 6
        obtain ⟨z209, e_z209⟩ : ∃ z, z = s205 0 11 := ⟨_, rfl⟩
        have g_z209 : (-2147483648) ≤ s205 0 11 ∧ s205 0 11 ≤ 2147483647 := hG_s205 0 11
        show xe (some (N, xs)) 231 699 [(0, .ref 2000), (1, .ref 0), (2, .ref 256), (3, vi x3)] [vi z204] s205 295 10442 _
        refine x_A k231_699 (fun _ => rfl) ?_
        refine x_A k231_700 (fun _ => rfl) ?_
        refine x_A k231_701 (fun _ => rfl) ?_
        refine x_A k231_702 (fun _ => rfl) ?_
        refine x_A k231_703 (fun _ => rfl) ?_
        refine x_iadd k231_704 ?_
        refine x_top (fun z210 e_z210 => ?_)
        refine x_scr k231_705 hN ⟨by omega, by omega⟩ (fun z211 g_z211 e_z211 => ?_)
        unfold in32 at g_z211
        have q_z211 : z211 = z203 := by rw [e_z211, e_z203, show z210 = z202 by omega]
        obtain ⟨z212, e_z212⟩ : ∃ z, z = s205 256 20 := ⟨_, rfl⟩
        have g_z212 : (0 : Int) ≤ s205 256 20 ∧ s205 256 20 ≤ 64 := hG_s205 256 20
        obtain ⟨z213, e_z213⟩ : ∃ z, z = s205 256 17 := ⟨_, rfl⟩
        have g_z213 : (0 : Int) ≤ s205 256 17 ∧ s205 256 17 ≤ 8 := hG_s205 256 17
        refine x_callV k231_706 (y := 187) (n := 1) (w0 := 0) (w1 := 1) (as := [vi z211]) (rest := []) (by decide +kernel) (q := 256) (nq := 62) (kq := 15) ⟨by decide, rfl⟩ rfl rfl rfl rfl (xe_mono (E_X11_rule_256 s205 hG_s205 z211 (by first | exact x_rbe e_z211 g_z211 rfl rfl | exact x_rb g_z211 rfl rfl | exact ⟨by omega, by omega⟩) ⟨by omega, by omega⟩ ⟨by omega, by omega⟩ J_s205) ?_)
        rintro s215 v ⟨hG_s215, t_s215, z214, rfl, g_z214, xp_z214, J_s215⟩
        have q216 : s215 177 1 = z206 := (t_s215 177 1 (show 1218 ∉ [4133, 4136, 4132, 4134, 4135, 5120, 5184, 5248, 4131, 4992, 5056, 4117, 4114] from by decide +kernel)).trans e_z206.symm
        have q217 : s215 177 5 = z207 := (t_s215 177 5 (show 1222 ∉ [4133, 4136, 4132, 4134, 4135, 5120, 5184, 5248, 4131, 4992, 5056, 4117, 4114] from by decide +kernel)).trans e_z207.symm
        have q218 : s215 177 6 = z208 := (t_s215 177 6 (show 1223 ∉ [4133, 4136, 4132, 4134, 4135, 5120, 5184, 5248, 4131, 4992, 5056, 4117, 4114] from by decide +kernel)).trans e_z208.symm
        have q219 : s215 0 11 = z209 := (t_s215 0 11 (show 12 ∉ [4133, 4136, 4132, 4134, 4135, 5120, 5184, 5248, 4131, 4992, 5056, 4117, 4114] from by decide +kernel)).trans e_z209.symm
        obtain ⟨z220, e_z220⟩ : ∃ z, z = s215 256 35 := ⟨_, rfl⟩
        have g_z220 : (-2147483648) ≤ s215 256 35 ∧ s215 256 35 ≤ 2147483647 := hG_s215 256 35
        obtain ⟨z221, e_z221⟩ : ∃ z, z = s215 256 34 := ⟨_, rfl⟩
        have g_z221 : (0 : Int) ≤ s215 256 34 ∧ s215 256 34 ≤ 160 := hG_s215 256 34
        obtain ⟨z222, e_z222⟩ : ∃ z, z = s215 256 17 := ⟨_, rfl⟩
        have g_z222 : (0 : Int) ≤ s215 256 17 ∧ s215 256 17 ≤ 8 := hG_s215 256 17
        obtain ⟨z223, e_z223⟩ : ∃ z, z = s215 256 20 := ⟨_, rfl⟩
        have g_z223 : (0 : Int) ≤ s215 256 20 ∧ s215 256 20 ≤ 64 := hG_s215 256 20
        show xe (some (N, xs)) 231 709 [(0, .ref 2000), (1, .ref 0), (2, .ref 256), (3, vi x3)] [vi z214] s215 295 10442 _
        obtain ⟨ez_s215, X1_s215⟩ := X1.rule i_X1 hG t_s205 t_s215 (by decide) (by decide) xp_z204 (by rw [← q_z211]; exact xp_z214)
        refine x_A k231_709 (fun _ => rfl) ?_
        refine x_goto k231_710 (t := 1300) rfl ?_
        refine x_iinc k231_1300 (ls' := [(3, vi (x3 + 7)), (0, .ref 2000), (1, .ref 0), (2, .ref 256)]) rfl (by decide) rfl ?_
        refine x_goto k231_1303 (t := 18) rfl ?_
        refine x_ls (l := [(0, .ref 2000), (1, .ref 0), (2, .ref 256), (3, vi (x3 + 7))]) (show ([0, 1, 2, 3] : List Nat).Nodup from by decide +kernel) ⟨rfl, rfl, rfl, rfl, trivial⟩ ?_
        exact ih s215 (x3 + 7) hG_s215 trivial ⟨by omega, by omega⟩ J_s215 X1_s215  (by omega)
      · rw [c5]
        refine x_B k231_33 rfl (fun _ => rfl) (fun _ => rfl) (fun _ _ => rfl) ?_
        show xe (some (N, xs)) 231 713 [(0, .ref 2000), (1, .ref 0), (2, .ref 256), (3, vi x3)] [] s 295 10442 _
        refine x_A k231_713 (fun _ => rfl) ?_
        refine x_callV k231_714 (y := 106) (n := 0) (w0 := 0) (w1 := 0) (as := []) (rest := []) (by decide +kernel) (q := 0) (nq := 12) (kq := 3) ⟨by decide, rfl⟩ rfl rfl rfl rfl (xe_mono (E_X10_fault_0 s hG) ?_)
        rintro s225 v ⟨-, t_s225, z224, rfl, g_z224, xp_z224⟩
        rw [t_s225.nil]
        try rw [t_s225.nil] at xp_z224
        show xe (some (N, xs)) 231 717 [(0, .ref 2000), (1, .ref 0), (2, .ref 256), (3, vi x3)] [vi z224] s 295 10442 _
        refine x_A k231_717 (fun _ => rfl) ?_
        refine x_callV k231_718 (y := 188) (n := 0) (w0 := 1) (w1 := 0) (as := []) (rest := [vi z224]) (by decide +kernel) (q := 256) (nq := 62) (kq := 15) ⟨by decide, rfl⟩ rfl rfl rfl rfl (xe_mono (E_X11_fault_256 s hG) ?_)
        rintro s227 v ⟨-, t_s227, z226, rfl, g_z226, xp_z226⟩
        rw [t_s227.nil]
        try rw [t_s227.nil] at xp_z226
        show xe (some (N, xs)) 231 721 [(0, .ref 2000), (1, .ref 0), (2, .ref 256), (3, vi x3)] [vi z226, vi z224] s 295 10442 _
        have ez_fa := X1.fault i_X1 (FL.rf (L := [])) (by decide) xp_z224 xp_z226
        refine x_ic_eq k231_721 (t := 1300) rfl (by first | exact x_rbe e_z224 g_z224 rfl rfl | exact x_rb g_z224 rfl rfl | exact ⟨by omega, by omega⟩) (by first | exact x_rbe e_z226 g_z226 rfl rfl | exact x_rb g_z226 rfl rfl | exact ⟨by omega, by omega⟩) (fun c228 => ?_) (fun c228 => ?_)
        · skip
          refine x_iinc k231_1300 (ls' := [(3, vi (x3 + 7)), (0, .ref 2000), (1, .ref 0), (2, .ref 256)]) rfl (by decide) rfl ?_
          refine x_goto k231_1303 (t := 18) rfl ?_
          refine x_ls (l := [(0, .ref 2000), (1, .ref 0), (2, .ref 256), (3, vi (x3 + 7))]) (show ([0, 1, 2, 3] : List Nat).Nodup from by decide +kernel) ⟨rfl, rfl, rfl, rfl, trivial⟩ ?_
          exact ih s (x3 + 7) hG f ⟨by omega, by omega⟩ i_J i_X1  (by omega)
        · skip
          refine x_A k231_724 (fun _ => rfl) ?_
          exfalso; omega
      · rw [c5]
        refine x_B k231_33 rfl (fun _ => rfl) (fun _ => rfl) (fun _ _ => rfl) ?_
        show xe (some (N, xs)) 231 726 [(0, .ref 2000), (1, .ref 0), (2, .ref 256), (3, vi x3)] [] s 295 10442 _
        refine x_A k231_726 (fun _ => rfl) ?_
        refine x_A k231_727 (fun _ => rfl) ?_
        refine x_A k231_728 (fun _ => rfl) ?_
        refine x_A k231_729 (fun _ => rfl) ?_
        refine x_iadd k231_730 ?_
        refine x_top (fun z229 e_z229 => ?_)
        refine x_scr k231_731 hN ⟨by omega, by omega⟩ (fun z230 g_z230 e_z230 => ?_)
        unfold in32 at g_z230
        refine x_A k231_732 (fun _ => rfl) ?_
        refine x_A k231_733 (fun _ => rfl) ?_
        refine x_A k231_734 (fun _ => rfl) ?_
        refine x_iadd k231_735 ?_
        refine x_top (fun z231 e_z231 => ?_)
        refine x_scr k231_736 hN ⟨by omega, by omega⟩ (fun z232 g_z232 e_z232 => ?_)
        unfold in32 at g_z232
        refine x_callV k231_737 (y := 107) (n := 2) (w0 := 0) (w1 := 2) (as := [vi z230, vi z232]) (rest := []) (by decide +kernel) (q := 0) (nq := 12) (kq := 3) ⟨by decide, rfl⟩ rfl rfl rfl rfl (xe_mono (C_X10_force_0 s hG i_J z230 (by first | exact x_rbe e_z230 g_z230 rfl rfl | exact x_rb g_z230 rfl rfl | exact ⟨by omega, by omega⟩) z232 (by first | exact x_rbe e_z232 g_z232 rfl rfl | exact x_rb g_z232 rfl rfl | exact ⟨by omega, by omega⟩)) ?_)
        rintro s234 v ⟨hG_s234, t_s234, z233, rfl, g_z233⟩
        have J_s234 : J s234 := J.fl i_J t_s234 (by decide +kernel)
        have X1_s234 : X1 s234 := X1.fl i_X1 t_s234 (by decide +kernel)
        show xe (some (N, xs)) 231 740 [(0, .ref 2000), (1, .ref 0), (2, .ref 256), (3, vi x3)] [vi z233] s234 295 10442 _
        refine x_A k231_740 (fun _ => rfl) ?_
        refine x_A k231_741 (fun _ => rfl) ?_
        refine x_A k231_742 (fun _ => rfl) ?_
        refine x_A k231_743 (fun _ => rfl) ?_
        refine x_A k231_744 (fun _ => rfl) ?_
        refine x_iadd k231_745 ?_
        refine x_top (fun z235 e_z235 => ?_)
        refine x_scr k231_746 hN ⟨by omega, by omega⟩ (fun z236 g_z236 e_z236 => ?_)
        unfold in32 at g_z236
        have q_z236 : z236 = z230 := by rw [e_z236, e_z230, show z235 = z229 by omega]
        refine x_A k231_747 (fun _ => rfl) ?_
        refine x_A k231_748 (fun _ => rfl) ?_
        refine x_A k231_749 (fun _ => rfl) ?_
        refine x_iadd k231_750 ?_
        refine x_top (fun z237 e_z237 => ?_)
        refine x_scr k231_751 hN ⟨by omega, by omega⟩ (fun z238 g_z238 e_z238 => ?_)
        unfold in32 at g_z238
        have q_z238 : z238 = z232 := by rw [e_z238, e_z232, show z237 = z231 by omega]
        refine x_callV k231_752 (y := 189) (n := 2) (w0 := 0) (w1 := 2) (as := [vi z236, vi z238]) (rest := []) (by decide +kernel) (q := 256) (nq := 62) (kq := 15) ⟨by decide, rfl⟩ rfl rfl rfl rfl (xe_mono (C_X11_force_256 s234 hG_s234 J_s234 z236 (by first | exact x_rbe e_z236 g_z236 rfl rfl | exact x_rb g_z236 rfl rfl | exact ⟨by omega, by omega⟩) z238 (by first | exact x_rbe e_z238 g_z238 rfl rfl | exact x_rb g_z238 rfl rfl | exact ⟨by omega, by omega⟩)) ?_)
        rintro s240 v ⟨hG_s240, t_s240, z239, rfl, g_z239⟩
        have J_s240 : J s240 := J.fl J_s234 t_s240 (by decide +kernel)
        have X1_s240 : X1 s240 := X1.fl X1_s234 t_s240 (by decide +kernel)
        show xe (some (N, xs)) 231 755 [(0, .ref 2000), (1, .ref 0), (2, .ref 256), (3, vi x3)] [vi z239] s240 295 10442 _
        refine x_A k231_755 (fun _ => rfl) ?_
        refine x_goto k231_756 (t := 1300) rfl ?_
        refine x_iinc k231_1300 (ls' := [(3, vi (x3 + 7)), (0, .ref 2000), (1, .ref 0), (2, .ref 256)]) rfl (by decide) rfl ?_
        refine x_goto k231_1303 (t := 18) rfl ?_
        refine x_ls (l := [(0, .ref 2000), (1, .ref 0), (2, .ref 256), (3, vi (x3 + 7))]) (show ([0, 1, 2, 3] : List Nat).Nodup from by decide +kernel) ⟨rfl, rfl, rfl, rfl, trivial⟩ ?_
        exact ih s240 (x3 + 7) hG_s240 trivial ⟨by omega, by omega⟩ J_s240 X1_s240  (by omega)
      · rw [c5]
        refine x_B k231_33 rfl (fun _ => rfl) (fun _ => rfl) (fun _ _ => rfl) ?_
        show xe (some (N, xs)) 231 759 [(0, .ref 2000), (1, .ref 0), (2, .ref 256), (3, vi x3)] [] s 295 10442 _
        refine x_A k231_759 (fun _ => rfl) ?_
        refine x_A k231_760 (fun _ => rfl) ?_
        refine x_A k231_761 (fun _ => rfl) ?_
        refine x_A k231_762 (fun _ => rfl) ?_
        refine x_iadd k231_763 ?_
        refine x_top (fun z241 e_z241 => ?_)
        refine x_scr k231_764 hN ⟨by omega, by omega⟩ (fun z242 g_z242 e_z242 => ?_)
        unfold in32 at g_z242
        refine x_A k231_765 (fun _ => rfl) ?_
        refine x_A k231_766 (fun _ => rfl) ?_
        refine x_A k231_767 (fun _ => rfl) ?_
        refine x_iadd k231_768 ?_
        refine x_top (fun z243 e_z243 => ?_)
        refine x_scr k231_769 hN ⟨by omega, by omega⟩ (fun z244 g_z244 e_z244 => ?_)
        unfold in32 at g_z244
        refine x_A k231_770 (fun _ => rfl) ?_
        refine x_A k231_771 (fun _ => rfl) ?_
        refine x_A k231_772 (fun _ => rfl) ?_
        refine x_iadd k231_773 ?_
        refine x_top (fun z245 e_z245 => ?_)
        refine x_scr k231_774 hN ⟨by omega, by omega⟩ (fun z246 g_z246 e_z246 => ?_)
        unfold in32 at g_z246
        refine x_callV k231_775 (y := 108) (n := 3) (w0 := 0) (w1 := 3) (as := [vi z242, vi z244, vi z246]) (rest := []) (by decide +kernel) (q := 0) (nq := 12) (kq := 3) ⟨by decide, rfl⟩ rfl rfl rfl rfl (xe_mono (C_X10_word_0 s hG z242 (by first | exact x_rbe e_z242 g_z242 rfl rfl | exact x_rb g_z242 rfl rfl | exact ⟨by omega, by omega⟩) z244 (by first | exact x_rbe e_z244 g_z244 rfl rfl | exact x_rb g_z244 rfl rfl | exact ⟨by omega, by omega⟩) z246 (by first | exact x_rbe e_z246 g_z246 rfl rfl | exact x_rb g_z246 rfl rfl | exact ⟨by omega, by omega⟩)) ?_)
        rintro s248 v ⟨hG_s248, t_s248, z247, rfl, g_z247⟩
        have J_s248 : J s248 := J.fl i_J t_s248 (by decide +kernel)
        have X1_s248 : X1 s248 := X1.fl i_X1 t_s248 (by decide +kernel)
        show xe (some (N, xs)) 231 778 [(0, .ref 2000), (1, .ref 0), (2, .ref 256), (3, vi x3)] [vi z247] s248 295 10442 _
        refine x_A k231_778 (fun _ => rfl) ?_
        refine x_A k231_779 (fun _ => rfl) ?_
        refine x_A k231_780 (fun _ => rfl) ?_
        refine x_A k231_781 (fun _ => rfl) ?_
        refine x_A k231_782 (fun _ => rfl) ?_
        refine x_iadd k231_783 ?_
        refine x_top (fun z249 e_z249 => ?_)
        refine x_scr k231_784 hN ⟨by omega, by omega⟩ (fun z250 g_z250 e_z250 => ?_)
        unfold in32 at g_z250
        have q_z250 : z250 = z242 := by rw [e_z250, e_z242, show z249 = z241 by omega]
        refine x_A k231_785 (fun _ => rfl) ?_
        refine x_A k231_786 (fun _ => rfl) ?_
        refine x_A k231_787 (fun _ => rfl) ?_
        refine x_iadd k231_788 ?_
        refine x_top (fun z251 e_z251 => ?_)
        refine x_scr k231_789 hN ⟨by omega, by omega⟩ (fun z252 g_z252 e_z252 => ?_)
        unfold in32 at g_z252
        have q_z252 : z252 = z244 := by rw [e_z252, e_z244, show z251 = z243 by omega]
        refine x_A k231_790 (fun _ => rfl) ?_
        refine x_A k231_791 (fun _ => rfl) ?_
        refine x_A k231_792 (fun _ => rfl) ?_
        refine x_iadd k231_793 ?_
        refine x_top (fun z253 e_z253 => ?_)
        refine x_scr k231_794 hN ⟨by omega, by omega⟩ (fun z254 g_z254 e_z254 => ?_)
        unfold in32 at g_z254
        have q_z254 : z254 = z246 := by rw [e_z254, e_z246, show z253 = z245 by omega]
        refine x_callV k231_795 (y := 192) (n := 3) (w0 := 0) (w1 := 3) (as := [vi z250, vi z252, vi z254]) (rest := []) (by decide +kernel) (q := 256) (nq := 62) (kq := 15) ⟨by decide, rfl⟩ rfl rfl rfl rfl (xe_mono (C_X11_word_256 s248 hG_s248 z250 (by first | exact x_rbe e_z250 g_z250 rfl rfl | exact x_rb g_z250 rfl rfl | exact ⟨by omega, by omega⟩) z252 (by first | exact x_rbe e_z252 g_z252 rfl rfl | exact x_rb g_z252 rfl rfl | exact ⟨by omega, by omega⟩) z254 (by first | exact x_rbe e_z254 g_z254 rfl rfl | exact x_rb g_z254 rfl rfl | exact ⟨by omega, by omega⟩)) ?_)
        rintro s256 v ⟨hG_s256, t_s256, z255, rfl, g_z255⟩
        have J_s256 : J s256 := J.fl J_s248 t_s256 (by decide +kernel)
        have X1_s256 : X1 s256 := X1.fl X1_s248 t_s256 (by decide +kernel)
        show xe (some (N, xs)) 231 798 [(0, .ref 2000), (1, .ref 0), (2, .ref 256), (3, vi x3)] [vi z255] s256 295 10442 _
        refine x_A k231_798 (fun _ => rfl) ?_
        refine x_goto k231_799 (t := 1300) rfl ?_
        refine x_iinc k231_1300 (ls' := [(3, vi (x3 + 7)), (0, .ref 2000), (1, .ref 0), (2, .ref 256)]) rfl (by decide) rfl ?_
        refine x_goto k231_1303 (t := 18) rfl ?_
        refine x_ls (l := [(0, .ref 2000), (1, .ref 0), (2, .ref 256), (3, vi (x3 + 7))]) (show ([0, 1, 2, 3] : List Nat).Nodup from by decide +kernel) ⟨rfl, rfl, rfl, rfl, trivial⟩ ?_
        exact ih s256 (x3 + 7) hG_s256 trivial ⟨by omega, by omega⟩ J_s256 X1_s256  (by omega)
      · rw [c5]
        refine x_B k231_33 rfl (fun _ => rfl) (fun _ => rfl) (fun _ _ => rfl) ?_
        show xe (some (N, xs)) 231 802 [(0, .ref 2000), (1, .ref 0), (2, .ref 256), (3, vi x3)] [] s 295 10442 _
        refine x_A k231_802 (fun _ => rfl) ?_
        refine x_A k231_803 (fun _ => rfl) ?_
        refine x_A k231_804 (fun _ => rfl) ?_
        refine x_A k231_805 (fun _ => rfl) ?_
        refine x_iadd k231_806 ?_
        refine x_top (fun z257 e_z257 => ?_)
        refine x_scr k231_807 hN ⟨by omega, by omega⟩ (fun z258 g_z258 e_z258 => ?_)
        unfold in32 at g_z258
        refine x_A k231_808 (fun _ => rfl) ?_
        refine x_A k231_809 (fun _ => rfl) ?_
        refine x_A k231_810 (fun _ => rfl) ?_
        refine x_iadd k231_811 ?_
        refine x_top (fun z259 e_z259 => ?_)
        refine x_scr k231_812 hN ⟨by omega, by omega⟩ (fun z260 g_z260 e_z260 => ?_)
        unfold in32 at g_z260
        refine x_callV k231_813 (y := 109) (n := 2) (w0 := 0) (w1 := 2) (as := [vi z258, vi z260]) (rest := []) (by decide +kernel) (q := 0) (nq := 12) (kq := 3) ⟨by decide, rfl⟩ rfl rfl rfl rfl (xe_mono (C_X10_leads_0 s hG z258 (by first | exact x_rbe e_z258 g_z258 rfl rfl | exact x_rb g_z258 rfl rfl | exact ⟨by omega, by omega⟩) z260 (by first | exact x_rbe e_z260 g_z260 rfl rfl | exact x_rb g_z260 rfl rfl | exact ⟨by omega, by omega⟩)) ?_)
        rintro s262 v ⟨-, t_s262, z261, rfl, g_z261⟩
        rw [t_s262.nil]
        show xe (some (N, xs)) 231 816 [(0, .ref 2000), (1, .ref 0), (2, .ref 256), (3, vi x3)] [vi z261] s 295 10442 _
        refine x_A k231_816 (fun _ => rfl) ?_
        refine x_A k231_817 (fun _ => rfl) ?_
        refine x_A k231_818 (fun _ => rfl) ?_
        refine x_A k231_819 (fun _ => rfl) ?_
        refine x_A k231_820 (fun _ => rfl) ?_
        refine x_iadd k231_821 ?_
        refine x_top (fun z263 e_z263 => ?_)
        refine x_scr k231_822 hN ⟨by omega, by omega⟩ (fun z264 g_z264 e_z264 => ?_)
        unfold in32 at g_z264
        have q_z264 : z264 = z258 := by rw [e_z264, e_z258, show z263 = z257 by omega]
        refine x_A k231_823 (fun _ => rfl) ?_
        refine x_A k231_824 (fun _ => rfl) ?_
        refine x_A k231_825 (fun _ => rfl) ?_
        refine x_iadd k231_826 ?_
        refine x_top (fun z265 e_z265 => ?_)
        refine x_scr k231_827 hN ⟨by omega, by omega⟩ (fun z266 g_z266 e_z266 => ?_)
        unfold in32 at g_z266
        have q_z266 : z266 = z260 := by rw [e_z266, e_z260, show z265 = z259 by omega]
        refine x_callV k231_828 (y := 193) (n := 2) (w0 := 0) (w1 := 2) (as := [vi z264, vi z266]) (rest := []) (by decide +kernel) (q := 256) (nq := 62) (kq := 15) ⟨by decide, rfl⟩ rfl rfl rfl rfl (xe_mono (C_X11_leads_256 s hG z264 (by first | exact x_rbe e_z264 g_z264 rfl rfl | exact x_rb g_z264 rfl rfl | exact ⟨by omega, by omega⟩) z266 (by first | exact x_rbe e_z266 g_z266 rfl rfl | exact x_rb g_z266 rfl rfl | exact ⟨by omega, by omega⟩)) ?_)
        rintro s268 v ⟨-, t_s268, z267, rfl, g_z267⟩
        rw [t_s268.nil]
        show xe (some (N, xs)) 231 831 [(0, .ref 2000), (1, .ref 0), (2, .ref 256), (3, vi x3)] [vi z267] s 295 10442 _
        refine x_A k231_831 (fun _ => rfl) ?_
        refine x_goto k231_832 (t := 1300) rfl ?_
        refine x_iinc k231_1300 (ls' := [(3, vi (x3 + 7)), (0, .ref 2000), (1, .ref 0), (2, .ref 256)]) rfl (by decide) rfl ?_
        refine x_goto k231_1303 (t := 18) rfl ?_
        refine x_ls (l := [(0, .ref 2000), (1, .ref 0), (2, .ref 256), (3, vi (x3 + 7))]) (show ([0, 1, 2, 3] : List Nat).Nodup from by decide +kernel) ⟨rfl, rfl, rfl, rfl, trivial⟩ ?_
        exact ih s (x3 + 7) hG f ⟨by omega, by omega⟩ i_J i_X1  (by omega)
      · rw [c5]
        refine x_B k231_33 rfl (fun _ => rfl) (fun _ => rfl) (fun _ _ => rfl) ?_
        show xe (some (N, xs)) 231 835 [(0, .ref 2000), (1, .ref 0), (2, .ref 256), (3, vi x3)] [] s 295 10442 _
        refine x_A k231_835 (fun _ => rfl) ?_
        refine x_callV k231_836 (y := 110) (n := 0) (w0 := 0) (w1 := 0) (as := []) (rest := []) (by decide +kernel) (q := 0) (nq := 12) (kq := 3) ⟨by decide, rfl⟩ rfl rfl rfl rfl (xe_mono (E_X10_ask_0 s hG) ?_)
        rintro s270 v ⟨hG_s270, t_s270, z269, rfl, g_z269, xp_z269⟩
        have J_s270 : J s270 := J.fl i_J t_s270 (by decide +kernel)
        obtain ⟨z271, e_z271⟩ : ∃ z, z = s270 177 1 := ⟨_, rfl⟩
        have g_z271 : (0 : Int) ≤ s270 177 1 ∧ s270 177 1 ≤ 160 := hG_s270 177 1
        obtain ⟨z272, e_z272⟩ : ∃ z, z = s270 177 5 := ⟨_, rfl⟩
        have g_z272 : (0 : Int) ≤ s270 177 5 ∧ s270 177 5 ≤ 5 := hG_s270 177 5
        obtain ⟨z273, e_z273⟩ : ∃ z, z = s270 177 6 := ⟨_, rfl⟩
        have g_z273 : (-2147483648) ≤ s270 177 6 ∧ s270 177 6 ≤ 2147483647 := hG_s270 177 6
        obtain ⟨z274, e_z274⟩ : ∃ z, z = s270 0 11 := ⟨_, rfl⟩
        have g_z274 : (-2147483648) ≤ s270 0 11 ∧ s270 0 11 ≤ 2147483647 := hG_s270 0 11
        obtain ⟨z275, e_z275⟩ : ∃ z, z = s270 218 6 := ⟨_, rfl⟩
        have g_z275 : (0 : Int) ≤ s270 218 6 ∧ s270 218 6 ≤ 8 := hG_s270 218 6
        show xe (some (N, xs)) 231 839 [(0, .ref 2000), (1, .ref 0), (2, .ref 256), (3, vi x3)] [vi z269] s270 295 10442 _
        refine x_A k231_839 (fun _ => rfl) ?_
        refine x_A k231_840 (fun _ => rfl) ?_
        obtain ⟨z276, e_z276⟩ : ∃ z, z = s270 256 47 := ⟨_, rfl⟩
        have g_z276 : (0 : Int) ≤ s270 256 47 ∧ s270 256 47 ≤ 110 := hG_s270 256 47
        obtain ⟨z277, e_z277⟩ : ∃ z, z = s270 256 48 := ⟨_, rfl⟩
        have g_z277 : (0 : Int) ≤ s270 256 48 ∧ s270 256 48 ≤ 120 := hG_s270 256 48
        obtain ⟨z278, e_z278⟩ : ∃ z, z = s270 256 36 := ⟨_, rfl⟩
        have g_z278 : (0 : Int) ≤ s270 256 36 ∧ s270 256 36 ≤ 160 := hG_s270 256 36
        obtain ⟨z279, e_z279⟩ : ∃ z, z = s270 256 34 := ⟨_, rfl⟩
        have g_z279 : (0 : Int) ≤ s270 256 34 ∧ s270 256 34 ≤ 160 := hG_s270 256 34
        obtain ⟨z280, e_z280⟩ : ∃ z, z = s270 256 43 := ⟨_, rfl⟩
        have g_z280 : (0 : Int) ≤ s270 256 43 ∧ s270 256 43 ≤ 8 := hG_s270 256 43
        obtain ⟨z281, e_z281⟩ : ∃ z, z = s270 256 50 := ⟨_, rfl⟩
        have g_z281 : (0 : Int) ≤ s270 256 50 ∧ s270 256 50 ≤ 5 := hG_s270 256 50
        obtain ⟨z282, e_z282⟩ : ∃ z, z = s270 256 51 := ⟨_, rfl⟩
        have g_z282 : (0 : Int) ≤ s270 256 51 ∧ s270 256 51 ≤ 1 := hG_s270 256 51
        refine x_callV k231_841 (y := 200) (n := 0) (w0 := 0) (w1 := 0) (as := []) (rest := []) (by decide +kernel) (q := 256) (nq := 62) (kq := 15) ⟨by decide, rfl⟩ rfl rfl rfl rfl (xe_mono (E_X11_ask_256 s270 hG_s270 ⟨by omega, by omega⟩ ⟨by omega, by omega⟩ ⟨by omega, by omega⟩ ⟨by omega, by omega⟩ ⟨by omega, by omega⟩ ⟨by omega, by omega⟩ ⟨by omega, by omega⟩ J_s270) ?_)
        rintro s284 v ⟨hG_s284, t_s284, z283, rfl, g_z283, xp_z283, J_s284⟩
        have q285 : s284 177 1 = z271 := (t_s284 177 1 (show 1218 ∉ [4133, 4136, 4132, 4134, 4135, 6080, 6144, 4144, 4145, 4148, 4147, 6208, 4131, 6016, 4140] from by decide +kernel)).trans e_z271.symm
        have q286 : s284 177 5 = z272 := (t_s284 177 5 (show 1222 ∉ [4133, 4136, 4132, 4134, 4135, 6080, 6144, 4144, 4145, 4148, 4147, 6208, 4131, 6016, 4140] from by decide +kernel)).trans e_z272.symm
        have q287 : s284 177 6 = z273 := (t_s284 177 6 (show 1223 ∉ [4133, 4136, 4132, 4134, 4135, 6080, 6144, 4144, 4145, 4148, 4147, 6208, 4131, 6016, 4140] from by decide +kernel)).trans e_z273.symm
        have q288 : s284 0 11 = z274 := (t_s284 0 11 (show 12 ∉ [4133, 4136, 4132, 4134, 4135, 6080, 6144, 4144, 4145, 4148, 4147, 6208, 4131, 6016, 4140] from by decide +kernel)).trans e_z274.symm
        have q289 : s284 218 6 = z275 := (t_s284 218 6 (show 2503 ∉ [4133, 4136, 4132, 4134, 4135, 6080, 6144, 4144, 4145, 4148, 4147, 6208, 4131, 6016, 4140] from by decide +kernel)).trans e_z275.symm
        obtain ⟨z290, e_z290⟩ : ∃ z, z = s284 256 35 := ⟨_, rfl⟩
        have g_z290 : (-2147483648) ≤ s284 256 35 ∧ s284 256 35 ≤ 2147483647 := hG_s284 256 35
        obtain ⟨z291, e_z291⟩ : ∃ z, z = s284 256 34 := ⟨_, rfl⟩
        have g_z291 : (0 : Int) ≤ s284 256 34 ∧ s284 256 34 ≤ 160 := hG_s284 256 34
        obtain ⟨z292, e_z292⟩ : ∃ z, z = s284 256 43 := ⟨_, rfl⟩
        have g_z292 : (0 : Int) ≤ s284 256 43 ∧ s284 256 43 ≤ 8 := hG_s284 256 43
        show xe (some (N, xs)) 231 844 [(0, .ref 2000), (1, .ref 0), (2, .ref 256), (3, vi x3)] [vi z283] s284 295 10442 _
        obtain ⟨ez_s284, X1_s284⟩ := X1.ask i_X1 hG t_s270 t_s284 (by decide) (by decide) xp_z269 xp_z283
        refine x_A k231_844 (fun _ => rfl) ?_
        refine x_goto k231_845 (t := 1300) rfl ?_
        refine x_iinc k231_1300 (ls' := [(3, vi (x3 + 7)), (0, .ref 2000), (1, .ref 0), (2, .ref 256)]) rfl (by decide) rfl ?_
        refine x_goto k231_1303 (t := 18) rfl ?_
        refine x_ls (l := [(0, .ref 2000), (1, .ref 0), (2, .ref 256), (3, vi (x3 + 7))]) (show ([0, 1, 2, 3] : List Nat).Nodup from by decide +kernel) ⟨rfl, rfl, rfl, rfl, trivial⟩ ?_
        exact ih s284 (x3 + 7) hG_s284 trivial ⟨by omega, by omega⟩ J_s284 X1_s284  (by omega)
      · rw [c5]
        refine x_B k231_33 rfl (fun _ => rfl) (fun _ => rfl) (fun _ _ => rfl) ?_
        show xe (some (N, xs)) 231 848 [(0, .ref 2000), (1, .ref 0), (2, .ref 256), (3, vi x3)] [] s 295 10442 _
        refine x_A k231_848 (fun _ => rfl) ?_
        refine x_A k231_849 (fun _ => rfl) ?_
        refine x_A k231_850 (fun _ => rfl) ?_
        refine x_A k231_851 (fun _ => rfl) ?_
        refine x_iadd k231_852 ?_
        refine x_top (fun z293 e_z293 => ?_)
        refine x_scr k231_853 hN ⟨by omega, by omega⟩ (fun z294 g_z294 e_z294 => ?_)
        unfold in32 at g_z294
        refine x_A k231_854 (fun _ => rfl) ?_
        refine x_A k231_855 (fun _ => rfl) ?_
        refine x_A k231_856 (fun _ => rfl) ?_
        refine x_iadd k231_857 ?_
        refine x_top (fun z295 e_z295 => ?_)
        refine x_scr k231_858 hN ⟨by omega, by omega⟩ (fun z296 g_z296 e_z296 => ?_)
        unfold in32 at g_z296
        refine x_A k231_859 (fun _ => rfl) ?_
        refine x_A k231_860 (fun _ => rfl) ?_
        refine x_A k231_861 (fun _ => rfl) ?_
        refine x_iadd k231_862 ?_
        refine x_top (fun z297 e_z297 => ?_)
        refine x_scr k231_863 hN ⟨by omega, by omega⟩ (fun z298 g_z298 e_z298 => ?_)
        unfold in32 at g_z298
        refine x_callV k231_864 (y := 111) (n := 3) (w0 := 0) (w1 := 3) (as := [vi z294, vi z296, vi z298]) (rest := []) (by decide +kernel) (q := 0) (nq := 12) (kq := 3) ⟨by decide, rfl⟩ rfl rfl rfl rfl (xe_mono (C_X10_met_0 s hG i_J z294 (by first | exact x_rbe e_z294 g_z294 rfl rfl | exact x_rb g_z294 rfl rfl | exact ⟨by omega, by omega⟩) z296 (by first | exact x_rbe e_z296 g_z296 rfl rfl | exact x_rb g_z296 rfl rfl | exact ⟨by omega, by omega⟩) z298 (by first | exact x_rbe e_z298 g_z298 rfl rfl | exact x_rb g_z298 rfl rfl | exact ⟨by omega, by omega⟩)) ?_)
        rintro s300 v ⟨hG_s300, t_s300, z299, rfl, g_z299⟩
        have J_s300 : J s300 := J.fl i_J t_s300 (by decide +kernel)
        have X1_s300 : X1 s300 := X1.fl i_X1 t_s300 (by decide +kernel)
        show xe (some (N, xs)) 231 867 [(0, .ref 2000), (1, .ref 0), (2, .ref 256), (3, vi x3)] [vi z299] s300 295 10442 _
        refine x_A k231_867 (fun _ => rfl) ?_
        refine x_A k231_868 (fun _ => rfl) ?_
        refine x_A k231_869 (fun _ => rfl) ?_
        refine x_A k231_870 (fun _ => rfl) ?_
        refine x_A k231_871 (fun _ => rfl) ?_
        refine x_iadd k231_872 ?_
        refine x_top (fun z301 e_z301 => ?_)
        refine x_scr k231_873 hN ⟨by omega, by omega⟩ (fun z302 g_z302 e_z302 => ?_)
        unfold in32 at g_z302
        have q_z302 : z302 = z294 := by rw [e_z302, e_z294, show z301 = z293 by omega]
        refine x_A k231_874 (fun _ => rfl) ?_
        refine x_A k231_875 (fun _ => rfl) ?_
        refine x_A k231_876 (fun _ => rfl) ?_
        refine x_iadd k231_877 ?_
        refine x_top (fun z303 e_z303 => ?_)
        refine x_scr k231_878 hN ⟨by omega, by omega⟩ (fun z304 g_z304 e_z304 => ?_)
        unfold in32 at g_z304
        have q_z304 : z304 = z296 := by rw [e_z304, e_z296, show z303 = z295 by omega]
        refine x_A k231_879 (fun _ => rfl) ?_
        refine x_A k231_880 (fun _ => rfl) ?_
        refine x_A k231_881 (fun _ => rfl) ?_
        refine x_iadd k231_882 ?_
        refine x_top (fun z305 e_z305 => ?_)
        refine x_scr k231_883 hN ⟨by omega, by omega⟩ (fun z306 g_z306 e_z306 => ?_)
        unfold in32 at g_z306
        have q_z306 : z306 = z298 := by rw [e_z306, e_z298, show z305 = z297 by omega]
        refine x_callV k231_884 (y := 204) (n := 3) (w0 := 0) (w1 := 3) (as := [vi z302, vi z304, vi z306]) (rest := []) (by decide +kernel) (q := 256) (nq := 62) (kq := 15) ⟨by decide, rfl⟩ rfl rfl rfl rfl (xe_mono (C_X11_met_256 s300 hG_s300 J_s300 z302 (by first | exact x_rbe e_z302 g_z302 rfl rfl | exact x_rb g_z302 rfl rfl | exact ⟨by omega, by omega⟩) z304 (by first | exact x_rbe e_z304 g_z304 rfl rfl | exact x_rb g_z304 rfl rfl | exact ⟨by omega, by omega⟩) z306 (by first | exact x_rbe e_z306 g_z306 rfl rfl | exact x_rb g_z306 rfl rfl | exact ⟨by omega, by omega⟩)) ?_)
        rintro s308 v ⟨hG_s308, t_s308, z307, rfl, g_z307⟩
        have J_s308 : J s308 := J.fl J_s300 t_s308 (by decide +kernel)
        have X1_s308 : X1 s308 := X1.fl X1_s300 t_s308 (by decide +kernel)
        show xe (some (N, xs)) 231 887 [(0, .ref 2000), (1, .ref 0), (2, .ref 256), (3, vi x3)] [vi z307] s308 295 10442 _
        refine x_A k231_887 (fun _ => rfl) ?_
        refine x_goto k231_888 (t := 1300) rfl ?_
        refine x_iinc k231_1300 (ls' := [(3, vi (x3 + 7)), (0, .ref 2000), (1, .ref 0), (2, .ref 256)]) rfl (by decide) rfl ?_
        refine x_goto k231_1303 (t := 18) rfl ?_
        refine x_ls (l := [(0, .ref 2000), (1, .ref 0), (2, .ref 256), (3, vi (x3 + 7))]) (show ([0, 1, 2, 3] : List Nat).Nodup from by decide +kernel) ⟨rfl, rfl, rfl, rfl, trivial⟩ ?_
        exact ih s308 (x3 + 7) hG_s308 trivial ⟨by omega, by omega⟩ J_s308 X1_s308  (by omega)
      · rw [c5]
        refine x_B k231_33 rfl (fun _ => rfl) (fun _ => rfl) (fun _ _ => rfl) ?_
        show xe (some (N, xs)) 231 891 [(0, .ref 2000), (1, .ref 0), (2, .ref 256), (3, vi x3)] [] s 295 10442 _
        refine x_A k231_891 (fun _ => rfl) ?_
        refine x_A k231_892 (fun _ => rfl) ?_
        refine x_A k231_893 (fun _ => rfl) ?_
        refine x_A k231_894 (fun _ => rfl) ?_
        refine x_iadd k231_895 ?_
        refine x_top (fun z309 e_z309 => ?_)
        refine x_scr k231_896 hN ⟨by omega, by omega⟩ (fun z310 g_z310 e_z310 => ?_)
        unfold in32 at g_z310
        refine x_A k231_897 (fun _ => rfl) ?_
        refine x_A k231_898 (fun _ => rfl) ?_
        refine x_A k231_899 (fun _ => rfl) ?_
        refine x_iadd k231_900 ?_
        refine x_top (fun z311 e_z311 => ?_)
        refine x_scr k231_901 hN ⟨by omega, by omega⟩ (fun z312 g_z312 e_z312 => ?_)
        unfold in32 at g_z312
        refine x_A k231_902 (fun _ => rfl) ?_
        refine x_A k231_903 (fun _ => rfl) ?_
        refine x_A k231_904 (fun _ => rfl) ?_
        refine x_iadd k231_905 ?_
        refine x_top (fun z313 e_z313 => ?_)
        refine x_scr k231_906 hN ⟨by omega, by omega⟩ (fun z314 g_z314 e_z314 => ?_)
        unfold in32 at g_z314
        refine x_A k231_907 (fun _ => rfl) ?_
        refine x_A k231_908 (fun _ => rfl) ?_
        refine x_A k231_909 (fun _ => rfl) ?_
        refine x_iadd k231_910 ?_
        refine x_top (fun z315 e_z315 => ?_)
        refine x_scr k231_911 hN ⟨by omega, by omega⟩ (fun z316 g_z316 e_z316 => ?_)
        unfold in32 at g_z316
        refine x_A k231_912 (fun _ => rfl) ?_
        refine x_A k231_913 (fun _ => rfl) ?_
        refine x_A k231_914 (fun _ => rfl) ?_
        refine x_iadd k231_915 ?_
        refine x_top (fun z317 e_z317 => ?_)
        refine x_scr k231_916 hN ⟨by omega, by omega⟩ (fun z318 g_z318 e_z318 => ?_)
        unfold in32 at g_z318
        refine x_callV k231_917 (y := 112) (n := 5) (w0 := 0) (w1 := 5) (as := [vi z310, vi z312, vi z314, vi z316, vi z318]) (rest := []) (by decide +kernel) (q := 0) (nq := 12) (kq := 3) ⟨by decide, rfl⟩ rfl rfl rfl rfl (xe_mono (C_X10_hands_0 s hG i_J z310 (by first | exact x_rbe e_z310 g_z310 rfl rfl | exact x_rb g_z310 rfl rfl | exact ⟨by omega, by omega⟩) z312 (by first | exact x_rbe e_z312 g_z312 rfl rfl | exact x_rb g_z312 rfl rfl | exact ⟨by omega, by omega⟩) z314 (by first | exact x_rbe e_z314 g_z314 rfl rfl | exact x_rb g_z314 rfl rfl | exact ⟨by omega, by omega⟩) z316 (by first | exact x_rbe e_z316 g_z316 rfl rfl | exact x_rb g_z316 rfl rfl | exact ⟨by omega, by omega⟩) z318 (by first | exact x_rbe e_z318 g_z318 rfl rfl | exact x_rb g_z318 rfl rfl | exact ⟨by omega, by omega⟩)) ?_)
        rintro s320 v ⟨hG_s320, t_s320, z319, rfl, g_z319⟩
        have J_s320 : J s320 := J.fl i_J t_s320 (by decide +kernel)
        have X1_s320 : X1 s320 := X1.fl i_X1 t_s320 (by decide +kernel)
        show xe (some (N, xs)) 231 920 [(0, .ref 2000), (1, .ref 0), (2, .ref 256), (3, vi x3)] [vi z319] s320 295 10442 _
        refine x_A k231_920 (fun _ => rfl) ?_
        refine x_A k231_921 (fun _ => rfl) ?_
        refine x_A k231_922 (fun _ => rfl) ?_
        refine x_A k231_923 (fun _ => rfl) ?_
        refine x_A k231_924 (fun _ => rfl) ?_
        refine x_iadd k231_925 ?_
        refine x_top (fun z321 e_z321 => ?_)
        refine x_scr k231_926 hN ⟨by omega, by omega⟩ (fun z322 g_z322 e_z322 => ?_)
        unfold in32 at g_z322
        have q_z322 : z322 = z310 := by rw [e_z322, e_z310, show z321 = z309 by omega]
        refine x_A k231_927 (fun _ => rfl) ?_
        refine x_A k231_928 (fun _ => rfl) ?_
        refine x_A k231_929 (fun _ => rfl) ?_
        refine x_iadd k231_930 ?_
        refine x_top (fun z323 e_z323 => ?_)
        refine x_scr k231_931 hN ⟨by omega, by omega⟩ (fun z324 g_z324 e_z324 => ?_)
        unfold in32 at g_z324
        have q_z324 : z324 = z312 := by rw [e_z324, e_z312, show z323 = z311 by omega]
        refine x_A k231_932 (fun _ => rfl) ?_
        refine x_A k231_933 (fun _ => rfl) ?_
        refine x_A k231_934 (fun _ => rfl) ?_
        refine x_iadd k231_935 ?_
        refine x_top (fun z325 e_z325 => ?_)
        refine x_scr k231_936 hN ⟨by omega, by omega⟩ (fun z326 g_z326 e_z326 => ?_)
        unfold in32 at g_z326
        have q_z326 : z326 = z314 := by rw [e_z326, e_z314, show z325 = z313 by omega]
        refine x_A k231_937 (fun _ => rfl) ?_
        refine x_A k231_938 (fun _ => rfl) ?_
        refine x_A k231_939 (fun _ => rfl) ?_
        refine x_iadd k231_940 ?_
        refine x_top (fun z327 e_z327 => ?_)
        refine x_scr k231_941 hN ⟨by omega, by omega⟩ (fun z328 g_z328 e_z328 => ?_)
        unfold in32 at g_z328
        have q_z328 : z328 = z316 := by rw [e_z328, e_z316, show z327 = z315 by omega]
        refine x_A k231_942 (fun _ => rfl) ?_
        refine x_A k231_943 (fun _ => rfl) ?_
        refine x_A k231_944 (fun _ => rfl) ?_
        refine x_iadd k231_945 ?_
        refine x_top (fun z329 e_z329 => ?_)
        refine x_scr k231_946 hN ⟨by omega, by omega⟩ (fun z330 g_z330 e_z330 => ?_)
        unfold in32 at g_z330
        have q_z330 : z330 = z318 := by rw [e_z330, e_z318, show z329 = z317 by omega]
        refine x_callV k231_947 (y := 206) (n := 5) (w0 := 0) (w1 := 5) (as := [vi z322, vi z324, vi z326, vi z328, vi z330]) (rest := []) (by decide +kernel) (q := 256) (nq := 62) (kq := 15) ⟨by decide, rfl⟩ rfl rfl rfl rfl (xe_mono (C_X11_hands_256 s320 hG_s320 J_s320 z322 (by first | exact x_rbe e_z322 g_z322 rfl rfl | exact x_rb g_z322 rfl rfl | exact ⟨by omega, by omega⟩) z324 (by first | exact x_rbe e_z324 g_z324 rfl rfl | exact x_rb g_z324 rfl rfl | exact ⟨by omega, by omega⟩) z326 (by first | exact x_rbe e_z326 g_z326 rfl rfl | exact x_rb g_z326 rfl rfl | exact ⟨by omega, by omega⟩) z328 (by first | exact x_rbe e_z328 g_z328 rfl rfl | exact x_rb g_z328 rfl rfl | exact ⟨by omega, by omega⟩) z330 (by first | exact x_rbe e_z330 g_z330 rfl rfl | exact x_rb g_z330 rfl rfl | exact ⟨by omega, by omega⟩)) ?_)
        rintro s332 v ⟨hG_s332, t_s332, z331, rfl, g_z331⟩
        have J_s332 : J s332 := J.fl J_s320 t_s332 (by decide +kernel)
        have X1_s332 : X1 s332 := X1.fl X1_s320 t_s332 (by decide +kernel)
        show xe (some (N, xs)) 231 950 [(0, .ref 2000), (1, .ref 0), (2, .ref 256), (3, vi x3)] [vi z331] s332 295 10442 _
        refine x_A k231_950 (fun _ => rfl) ?_
        refine x_goto k231_951 (t := 1300) rfl ?_
        refine x_iinc k231_1300 (ls' := [(3, vi (x3 + 7)), (0, .ref 2000), (1, .ref 0), (2, .ref 256)]) rfl (by decide) rfl ?_
        refine x_goto k231_1303 (t := 18) rfl ?_
        refine x_ls (l := [(0, .ref 2000), (1, .ref 0), (2, .ref 256), (3, vi (x3 + 7))]) (show ([0, 1, 2, 3] : List Nat).Nodup from by decide +kernel) ⟨rfl, rfl, rfl, rfl, trivial⟩ ?_
        exact ih s332 (x3 + 7) hG_s332 trivial ⟨by omega, by omega⟩ J_s332 X1_s332  (by omega)
      · rw [c5]
        refine x_B k231_33 rfl (fun _ => rfl) (fun _ => rfl) (fun _ _ => rfl) ?_
        show xe (some (N, xs)) 231 954 [(0, .ref 2000), (1, .ref 0), (2, .ref 256), (3, vi x3)] [] s 295 10442 _
        refine x_A k231_954 (fun _ => rfl) ?_
        refine x_A k231_955 (fun _ => rfl) ?_
        refine x_A k231_956 (fun _ => rfl) ?_
        refine x_A k231_957 (fun _ => rfl) ?_
        refine x_iadd k231_958 ?_
        refine x_top (fun z333 e_z333 => ?_)
        refine x_scr k231_959 hN ⟨by omega, by omega⟩ (fun z334 g_z334 e_z334 => ?_)
        unfold in32 at g_z334
        refine x_A k231_960 (fun _ => rfl) ?_
        refine x_A k231_961 (fun _ => rfl) ?_
        refine x_A k231_962 (fun _ => rfl) ?_
        refine x_iadd k231_963 ?_
        refine x_top (fun z335 e_z335 => ?_)
        refine x_scr k231_964 hN ⟨by omega, by omega⟩ (fun z336 g_z336 e_z336 => ?_)
        unfold in32 at g_z336
        refine x_A k231_965 (fun _ => rfl) ?_
        refine x_A k231_966 (fun _ => rfl) ?_
        refine x_A k231_967 (fun _ => rfl) ?_
        refine x_iadd k231_968 ?_
        refine x_top (fun z337 e_z337 => ?_)
        refine x_scr k231_969 hN ⟨by omega, by omega⟩ (fun z338 g_z338 e_z338 => ?_)
        unfold in32 at g_z338
        refine x_A k231_970 (fun _ => rfl) ?_
        refine x_A k231_971 (fun _ => rfl) ?_
        refine x_A k231_972 (fun _ => rfl) ?_
        refine x_iadd k231_973 ?_
        refine x_top (fun z339 e_z339 => ?_)
        refine x_scr k231_974 hN ⟨by omega, by omega⟩ (fun z340 g_z340 e_z340 => ?_)
        unfold in32 at g_z340
        refine x_A k231_975 (fun _ => rfl) ?_
        refine x_A k231_976 (fun _ => rfl) ?_
        refine x_A k231_977 (fun _ => rfl) ?_
        refine x_iadd k231_978 ?_
        refine x_top (fun z341 e_z341 => ?_)
        refine x_scr k231_979 hN ⟨by omega, by omega⟩ (fun z342 g_z342 e_z342 => ?_)
        unfold in32 at g_z342
        refine x_A k231_980 (fun _ => rfl) ?_
        refine x_A k231_981 (fun _ => rfl) ?_
        refine x_bipush k231_982 (by decide +kernel) ?_
        refine x_iadd k231_984 ?_
        refine x_top (fun z343 e_z343 => ?_)
        refine x_scr k231_985 hN ⟨by omega, by omega⟩ (fun z344 g_z344 e_z344 => ?_)
        unfold in32 at g_z344
        refine x_callV k231_986 (y := 113) (n := 6) (w0 := 0) (w1 := 6) (as := [vi z334, vi z336, vi z338, vi z340, vi z342, vi z344]) (rest := []) (by decide +kernel) (q := 0) (nq := 12) (kq := 3) ⟨by decide, rfl⟩ rfl rfl rfl rfl (xe_mono (C_X10_together_0 s hG i_J z334 (by first | exact x_rbe e_z334 g_z334 rfl rfl | exact x_rb g_z334 rfl rfl | exact ⟨by omega, by omega⟩) z336 (by first | exact x_rbe e_z336 g_z336 rfl rfl | exact x_rb g_z336 rfl rfl | exact ⟨by omega, by omega⟩) z338 (by first | exact x_rbe e_z338 g_z338 rfl rfl | exact x_rb g_z338 rfl rfl | exact ⟨by omega, by omega⟩) z340 (by first | exact x_rbe e_z340 g_z340 rfl rfl | exact x_rb g_z340 rfl rfl | exact ⟨by omega, by omega⟩) z342 (by first | exact x_rbe e_z342 g_z342 rfl rfl | exact x_rb g_z342 rfl rfl | exact ⟨by omega, by omega⟩) z344 (by first | exact x_rbe e_z344 g_z344 rfl rfl | exact x_rb g_z344 rfl rfl | exact ⟨by omega, by omega⟩)) ?_)
        rintro s346 v ⟨hG_s346, t_s346, z345, rfl, g_z345⟩
        have J_s346 : J s346 := J.fl i_J t_s346 (by decide +kernel)
        have X1_s346 : X1 s346 := X1.fl i_X1 t_s346 (by decide +kernel)
        show xe (some (N, xs)) 231 989 [(0, .ref 2000), (1, .ref 0), (2, .ref 256), (3, vi x3)] [vi z345] s346 295 10442 _
        refine x_A k231_989 (fun _ => rfl) ?_
        refine x_A k231_990 (fun _ => rfl) ?_
        refine x_A k231_991 (fun _ => rfl) ?_
        refine x_A k231_992 (fun _ => rfl) ?_
        refine x_A k231_993 (fun _ => rfl) ?_
        refine x_iadd k231_994 ?_
        refine x_top (fun z347 e_z347 => ?_)
        refine x_scr k231_995 hN ⟨by omega, by omega⟩ (fun z348 g_z348 e_z348 => ?_)
        unfold in32 at g_z348
        have q_z348 : z348 = z334 := by rw [e_z348, e_z334, show z347 = z333 by omega]
        refine x_A k231_996 (fun _ => rfl) ?_
        refine x_A k231_997 (fun _ => rfl) ?_
        refine x_A k231_998 (fun _ => rfl) ?_
        refine x_iadd k231_999 ?_
        refine x_top (fun z349 e_z349 => ?_)
        refine x_scr k231_1000 hN ⟨by omega, by omega⟩ (fun z350 g_z350 e_z350 => ?_)
        unfold in32 at g_z350
        have q_z350 : z350 = z336 := by rw [e_z350, e_z336, show z349 = z335 by omega]
        refine x_A k231_1001 (fun _ => rfl) ?_
        refine x_A k231_1002 (fun _ => rfl) ?_
        refine x_A k231_1003 (fun _ => rfl) ?_
        refine x_iadd k231_1004 ?_
        refine x_top (fun z351 e_z351 => ?_)
        refine x_scr k231_1005 hN ⟨by omega, by omega⟩ (fun z352 g_z352 e_z352 => ?_)
        unfold in32 at g_z352
        have q_z352 : z352 = z338 := by rw [e_z352, e_z338, show z351 = z337 by omega]
        refine x_A k231_1006 (fun _ => rfl) ?_
        refine x_A k231_1007 (fun _ => rfl) ?_
        refine x_A k231_1008 (fun _ => rfl) ?_
        refine x_iadd k231_1009 ?_
        refine x_top (fun z353 e_z353 => ?_)
        refine x_scr k231_1010 hN ⟨by omega, by omega⟩ (fun z354 g_z354 e_z354 => ?_)
        unfold in32 at g_z354
        have q_z354 : z354 = z340 := by rw [e_z354, e_z340, show z353 = z339 by omega]
        refine x_A k231_1011 (fun _ => rfl) ?_
        refine x_A k231_1012 (fun _ => rfl) ?_
        refine x_A k231_1013 (fun _ => rfl) ?_
        refine x_iadd k231_1014 ?_
        refine x_top (fun z355 e_z355 => ?_)
        refine x_scr k231_1015 hN ⟨by omega, by omega⟩ (fun z356 g_z356 e_z356 => ?_)
        unfold in32 at g_z356
        have q_z356 : z356 = z342 := by rw [e_z356, e_z342, show z355 = z341 by omega]
        refine x_A k231_1016 (fun _ => rfl) ?_
        refine x_A k231_1017 (fun _ => rfl) ?_
        refine x_bipush k231_1018 (by decide +kernel) ?_
        refine x_iadd k231_1020 ?_
        refine x_top (fun z357 e_z357 => ?_)
        refine x_scr k231_1021 hN ⟨by omega, by omega⟩ (fun z358 g_z358 e_z358 => ?_)
        unfold in32 at g_z358
        have q_z358 : z358 = z344 := by rw [e_z358, e_z344, show z357 = z343 by omega]
        refine x_callV k231_1022 (y := 208) (n := 6) (w0 := 0) (w1 := 6) (as := [vi z348, vi z350, vi z352, vi z354, vi z356, vi z358]) (rest := []) (by decide +kernel) (q := 256) (nq := 62) (kq := 15) ⟨by decide, rfl⟩ rfl rfl rfl rfl (xe_mono (C_X11_together_256 s346 hG_s346 J_s346 z348 (by first | exact x_rbe e_z348 g_z348 rfl rfl | exact x_rb g_z348 rfl rfl | exact ⟨by omega, by omega⟩) z350 (by first | exact x_rbe e_z350 g_z350 rfl rfl | exact x_rb g_z350 rfl rfl | exact ⟨by omega, by omega⟩) z352 (by first | exact x_rbe e_z352 g_z352 rfl rfl | exact x_rb g_z352 rfl rfl | exact ⟨by omega, by omega⟩) z354 (by first | exact x_rbe e_z354 g_z354 rfl rfl | exact x_rb g_z354 rfl rfl | exact ⟨by omega, by omega⟩) z356 (by first | exact x_rbe e_z356 g_z356 rfl rfl | exact x_rb g_z356 rfl rfl | exact ⟨by omega, by omega⟩) z358 (by first | exact x_rbe e_z358 g_z358 rfl rfl | exact x_rb g_z358 rfl rfl | exact ⟨by omega, by omega⟩)) ?_)
        rintro s360 v ⟨hG_s360, t_s360, z359, rfl, g_z359⟩
        have J_s360 : J s360 := J.fl J_s346 t_s360 (by decide +kernel)
        have X1_s360 : X1 s360 := X1.fl X1_s346 t_s360 (by decide +kernel)
        show xe (some (N, xs)) 231 1025 [(0, .ref 2000), (1, .ref 0), (2, .ref 256), (3, vi x3)] [vi z359] s360 295 10442 _
        refine x_A k231_1025 (fun _ => rfl) ?_
        refine x_goto k231_1026 (t := 1300) rfl ?_
        refine x_iinc k231_1300 (ls' := [(3, vi (x3 + 7)), (0, .ref 2000), (1, .ref 0), (2, .ref 256)]) rfl (by decide) rfl ?_
        refine x_goto k231_1303 (t := 18) rfl ?_
        refine x_ls (l := [(0, .ref 2000), (1, .ref 0), (2, .ref 256), (3, vi (x3 + 7))]) (show ([0, 1, 2, 3] : List Nat).Nodup from by decide +kernel) ⟨rfl, rfl, rfl, rfl, trivial⟩ ?_
        exact ih s360 (x3 + 7) hG_s360 trivial ⟨by omega, by omega⟩ J_s360 X1_s360  (by omega)
      · rw [c5]
        refine x_B k231_33 rfl (fun _ => rfl) (fun _ => rfl) (fun _ _ => rfl) ?_
        show xe (some (N, xs)) 231 1029 [(0, .ref 2000), (1, .ref 0), (2, .ref 256), (3, vi x3)] [] s 295 10442 _
        refine x_A k231_1029 (fun _ => rfl) ?_
        refine x_A k231_1030 (fun _ => rfl) ?_
        refine x_A k231_1031 (fun _ => rfl) ?_
        refine x_A k231_1032 (fun _ => rfl) ?_
        refine x_iadd k231_1033 ?_
        refine x_top (fun z361 e_z361 => ?_)
        refine x_scr k231_1034 hN ⟨by omega, by omega⟩ (fun z362 g_z362 e_z362 => ?_)
        unfold in32 at g_z362
        refine x_A k231_1035 (fun _ => rfl) ?_
        refine x_A k231_1036 (fun _ => rfl) ?_
        refine x_A k231_1037 (fun _ => rfl) ?_
        refine x_iadd k231_1038 ?_
        refine x_top (fun z363 e_z363 => ?_)
        refine x_scr k231_1039 hN ⟨by omega, by omega⟩ (fun z364 g_z364 e_z364 => ?_)
        unfold in32 at g_z364
        refine x_A k231_1040 (fun _ => rfl) ?_
        refine x_A k231_1041 (fun _ => rfl) ?_
        refine x_A k231_1042 (fun _ => rfl) ?_
        refine x_iadd k231_1043 ?_
        refine x_top (fun z365 e_z365 => ?_)
        refine x_scr k231_1044 hN ⟨by omega, by omega⟩ (fun z366 g_z366 e_z366 => ?_)
        unfold in32 at g_z366
        refine x_callV k231_1045 (y := 114) (n := 3) (w0 := 0) (w1 := 3) (as := [vi z362, vi z364, vi z366]) (rest := []) (by decide +kernel) (q := 0) (nq := 12) (kq := 3) ⟨by decide, rfl⟩ rfl rfl rfl rfl (xe_mono (C_X10_along_0 s hG i_J z362 (by first | exact x_rbe e_z362 g_z362 rfl rfl | exact x_rb g_z362 rfl rfl | exact ⟨by omega, by omega⟩) z364 (by first | exact x_rbe e_z364 g_z364 rfl rfl | exact x_rb g_z364 rfl rfl | exact ⟨by omega, by omega⟩) z366 (by first | exact x_rbe e_z366 g_z366 rfl rfl | exact x_rb g_z366 rfl rfl | exact ⟨by omega, by omega⟩)) ?_)
        rintro s368 v ⟨hG_s368, t_s368, z367, rfl, g_z367⟩
        have J_s368 : J s368 := J.fl i_J t_s368 (by decide +kernel)
        have X1_s368 : X1 s368 := X1.fl i_X1 t_s368 (by decide +kernel)
        show xe (some (N, xs)) 231 1048 [(0, .ref 2000), (1, .ref 0), (2, .ref 256), (3, vi x3)] [vi z367] s368 295 10442 _
        refine x_A k231_1048 (fun _ => rfl) ?_
        refine x_A k231_1049 (fun _ => rfl) ?_
        refine x_A k231_1050 (fun _ => rfl) ?_
        refine x_A k231_1051 (fun _ => rfl) ?_
        refine x_A k231_1052 (fun _ => rfl) ?_
        refine x_iadd k231_1053 ?_
        refine x_top (fun z369 e_z369 => ?_)
        refine x_scr k231_1054 hN ⟨by omega, by omega⟩ (fun z370 g_z370 e_z370 => ?_)
        unfold in32 at g_z370
        have q_z370 : z370 = z362 := by rw [e_z370, e_z362, show z369 = z361 by omega]
        refine x_A k231_1055 (fun _ => rfl) ?_
        refine x_A k231_1056 (fun _ => rfl) ?_
        refine x_A k231_1057 (fun _ => rfl) ?_
        refine x_iadd k231_1058 ?_
        refine x_top (fun z371 e_z371 => ?_)
        refine x_scr k231_1059 hN ⟨by omega, by omega⟩ (fun z372 g_z372 e_z372 => ?_)
        unfold in32 at g_z372
        have q_z372 : z372 = z364 := by rw [e_z372, e_z364, show z371 = z363 by omega]
        refine x_A k231_1060 (fun _ => rfl) ?_
        refine x_A k231_1061 (fun _ => rfl) ?_
        refine x_A k231_1062 (fun _ => rfl) ?_
        refine x_iadd k231_1063 ?_
        refine x_top (fun z373 e_z373 => ?_)
        refine x_scr k231_1064 hN ⟨by omega, by omega⟩ (fun z374 g_z374 e_z374 => ?_)
        unfold in32 at g_z374
        have q_z374 : z374 = z366 := by rw [e_z374, e_z366, show z373 = z365 by omega]
        refine x_callV k231_1065 (y := 211) (n := 3) (w0 := 0) (w1 := 3) (as := [vi z370, vi z372, vi z374]) (rest := []) (by decide +kernel) (q := 256) (nq := 62) (kq := 15) ⟨by decide, rfl⟩ rfl rfl rfl rfl (xe_mono (C_X11_along_256 s368 hG_s368 J_s368 z370 (by first | exact x_rbe e_z370 g_z370 rfl rfl | exact x_rb g_z370 rfl rfl | exact ⟨by omega, by omega⟩) z372 (by first | exact x_rbe e_z372 g_z372 rfl rfl | exact x_rb g_z372 rfl rfl | exact ⟨by omega, by omega⟩) z374 (by first | exact x_rbe e_z374 g_z374 rfl rfl | exact x_rb g_z374 rfl rfl | exact ⟨by omega, by omega⟩)) ?_)
        rintro s376 v ⟨hG_s376, t_s376, z375, rfl, g_z375⟩
        have J_s376 : J s376 := J.fl J_s368 t_s376 (by decide +kernel)
        have X1_s376 : X1 s376 := X1.fl X1_s368 t_s376 (by decide +kernel)
        show xe (some (N, xs)) 231 1068 [(0, .ref 2000), (1, .ref 0), (2, .ref 256), (3, vi x3)] [vi z375] s376 295 10442 _
        refine x_A k231_1068 (fun _ => rfl) ?_
        refine x_goto k231_1069 (t := 1300) rfl ?_
        refine x_iinc k231_1300 (ls' := [(3, vi (x3 + 7)), (0, .ref 2000), (1, .ref 0), (2, .ref 256)]) rfl (by decide) rfl ?_
        refine x_goto k231_1303 (t := 18) rfl ?_
        refine x_ls (l := [(0, .ref 2000), (1, .ref 0), (2, .ref 256), (3, vi (x3 + 7))]) (show ([0, 1, 2, 3] : List Nat).Nodup from by decide +kernel) ⟨rfl, rfl, rfl, rfl, trivial⟩ ?_
        exact ih s376 (x3 + 7) hG_s376 trivial ⟨by omega, by omega⟩ J_s376 X1_s376  (by omega)
      · rw [c5]
        refine x_B k231_33 rfl (fun _ => rfl) (fun _ => rfl) (fun _ _ => rfl) ?_
        show xe (some (N, xs)) 231 1072 [(0, .ref 2000), (1, .ref 0), (2, .ref 256), (3, vi x3)] [] s 295 10442 _
        refine x_A k231_1072 (fun _ => rfl) ?_
        refine x_A k231_1073 (fun _ => rfl) ?_
        refine x_A k231_1074 (fun _ => rfl) ?_
        refine x_A k231_1075 (fun _ => rfl) ?_
        refine x_iadd k231_1076 ?_
        refine x_top (fun z377 e_z377 => ?_)
        refine x_scr k231_1077 hN ⟨by omega, by omega⟩ (fun z378 g_z378 e_z378 => ?_)
        unfold in32 at g_z378
        refine x_A k231_1078 (fun _ => rfl) ?_
        refine x_A k231_1079 (fun _ => rfl) ?_
        refine x_A k231_1080 (fun _ => rfl) ?_
        refine x_iadd k231_1081 ?_
        refine x_top (fun z379 e_z379 => ?_)
        refine x_scr k231_1082 hN ⟨by omega, by omega⟩ (fun z380 g_z380 e_z380 => ?_)
        unfold in32 at g_z380
        refine x_A k231_1083 (fun _ => rfl) ?_
        refine x_A k231_1084 (fun _ => rfl) ?_
        refine x_A k231_1085 (fun _ => rfl) ?_
        refine x_iadd k231_1086 ?_
        refine x_top (fun z381 e_z381 => ?_)
        refine x_scr k231_1087 hN ⟨by omega, by omega⟩ (fun z382 g_z382 e_z382 => ?_)
        unfold in32 at g_z382
        refine x_callV k231_1088 (y := 115) (n := 3) (w0 := 0) (w1 := 3) (as := [vi z378, vi z380, vi z382]) (rest := []) (by decide +kernel) (q := 0) (nq := 12) (kq := 3) ⟨by decide, rfl⟩ rfl rfl rfl rfl (xe_mono (C_X10_likely_0 s hG i_J z378 (by first | exact x_rbe e_z378 g_z378 rfl rfl | exact x_rb g_z378 rfl rfl | exact ⟨by omega, by omega⟩) z380 (by first | exact x_rbe e_z380 g_z380 rfl rfl | exact x_rb g_z380 rfl rfl | exact ⟨by omega, by omega⟩) z382 (by first | exact x_rbe e_z382 g_z382 rfl rfl | exact x_rb g_z382 rfl rfl | exact ⟨by omega, by omega⟩)) ?_)
        rintro s384 v ⟨hG_s384, t_s384, z383, rfl, g_z383⟩
        have J_s384 : J s384 := J.fl i_J t_s384 (by decide +kernel)
        have X1_s384 : X1 s384 := X1.fl i_X1 t_s384 (by decide +kernel)
        show xe (some (N, xs)) 231 1091 [(0, .ref 2000), (1, .ref 0), (2, .ref 256), (3, vi x3)] [vi z383] s384 295 10442 _
        refine x_A k231_1091 (fun _ => rfl) ?_
        refine x_A k231_1092 (fun _ => rfl) ?_
        refine x_A k231_1093 (fun _ => rfl) ?_
        refine x_A k231_1094 (fun _ => rfl) ?_
        refine x_A k231_1095 (fun _ => rfl) ?_
        refine x_iadd k231_1096 ?_
        refine x_top (fun z385 e_z385 => ?_)
        refine x_scr k231_1097 hN ⟨by omega, by omega⟩ (fun z386 g_z386 e_z386 => ?_)
        unfold in32 at g_z386
        have q_z386 : z386 = z378 := by rw [e_z386, e_z378, show z385 = z377 by omega]
        refine x_A k231_1098 (fun _ => rfl) ?_
        refine x_A k231_1099 (fun _ => rfl) ?_
        refine x_A k231_1100 (fun _ => rfl) ?_
        refine x_iadd k231_1101 ?_
        refine x_top (fun z387 e_z387 => ?_)
        refine x_scr k231_1102 hN ⟨by omega, by omega⟩ (fun z388 g_z388 e_z388 => ?_)
        unfold in32 at g_z388
        have q_z388 : z388 = z380 := by rw [e_z388, e_z380, show z387 = z379 by omega]
        refine x_A k231_1103 (fun _ => rfl) ?_
        refine x_A k231_1104 (fun _ => rfl) ?_
        refine x_A k231_1105 (fun _ => rfl) ?_
        refine x_iadd k231_1106 ?_
        refine x_top (fun z389 e_z389 => ?_)
        refine x_scr k231_1107 hN ⟨by omega, by omega⟩ (fun z390 g_z390 e_z390 => ?_)
        unfold in32 at g_z390
        have q_z390 : z390 = z382 := by rw [e_z390, e_z382, show z389 = z381 by omega]
        refine x_callV k231_1108 (y := 212) (n := 3) (w0 := 0) (w1 := 3) (as := [vi z386, vi z388, vi z390]) (rest := []) (by decide +kernel) (q := 256) (nq := 62) (kq := 15) ⟨by decide, rfl⟩ rfl rfl rfl rfl (xe_mono (C_X11_likely_256 s384 hG_s384 J_s384 z386 (by first | exact x_rbe e_z386 g_z386 rfl rfl | exact x_rb g_z386 rfl rfl | exact ⟨by omega, by omega⟩) z388 (by first | exact x_rbe e_z388 g_z388 rfl rfl | exact x_rb g_z388 rfl rfl | exact ⟨by omega, by omega⟩) z390 (by first | exact x_rbe e_z390 g_z390 rfl rfl | exact x_rb g_z390 rfl rfl | exact ⟨by omega, by omega⟩)) ?_)
        rintro s392 v ⟨hG_s392, t_s392, z391, rfl, g_z391⟩
        have J_s392 : J s392 := J.fl J_s384 t_s392 (by decide +kernel)
        have X1_s392 : X1 s392 := X1.fl X1_s384 t_s392 (by decide +kernel)
        show xe (some (N, xs)) 231 1111 [(0, .ref 2000), (1, .ref 0), (2, .ref 256), (3, vi x3)] [vi z391] s392 295 10442 _
        refine x_A k231_1111 (fun _ => rfl) ?_
        refine x_goto k231_1112 (t := 1300) rfl ?_
        refine x_iinc k231_1300 (ls' := [(3, vi (x3 + 7)), (0, .ref 2000), (1, .ref 0), (2, .ref 256)]) rfl (by decide) rfl ?_
        refine x_goto k231_1303 (t := 18) rfl ?_
        refine x_ls (l := [(0, .ref 2000), (1, .ref 0), (2, .ref 256), (3, vi (x3 + 7))]) (show ([0, 1, 2, 3] : List Nat).Nodup from by decide +kernel) ⟨rfl, rfl, rfl, rfl, trivial⟩ ?_
        exact ih s392 (x3 + 7) hG_s392 trivial ⟨by omega, by omega⟩ J_s392 X1_s392  (by omega)
      · rw [c5]
        refine x_B k231_33 rfl (fun _ => rfl) (fun _ => rfl) (fun _ _ => rfl) ?_
        show xe (some (N, xs)) 231 1115 [(0, .ref 2000), (1, .ref 0), (2, .ref 256), (3, vi x3)] [] s 295 10442 _
        refine x_A k231_1115 (fun _ => rfl) ?_
        refine x_A k231_1116 (fun _ => rfl) ?_
        refine x_A k231_1117 (fun _ => rfl) ?_
        refine x_A k231_1118 (fun _ => rfl) ?_
        refine x_iadd k231_1119 ?_
        refine x_top (fun z393 e_z393 => ?_)
        refine x_scr k231_1120 hN ⟨by omega, by omega⟩ (fun z394 g_z394 e_z394 => ?_)
        unfold in32 at g_z394
        refine x_A k231_1121 (fun _ => rfl) ?_
        refine x_A k231_1122 (fun _ => rfl) ?_
        refine x_A k231_1123 (fun _ => rfl) ?_
        refine x_iadd k231_1124 ?_
        refine x_top (fun z395 e_z395 => ?_)
        refine x_scr k231_1125 hN ⟨by omega, by omega⟩ (fun z396 g_z396 e_z396 => ?_)
        unfold in32 at g_z396
        refine x_callV k231_1126 (y := 116) (n := 2) (w0 := 0) (w1 := 2) (as := [vi z394, vi z396]) (rest := []) (by decide +kernel) (q := 0) (nq := 12) (kq := 3) ⟨by decide, rfl⟩ rfl rfl rfl rfl (xe_mono (C_X10_lacking_0 s hG i_J z394 (by first | exact x_rbe e_z394 g_z394 rfl rfl | exact x_rb g_z394 rfl rfl | exact ⟨by omega, by omega⟩) z396 (by first | exact x_rbe e_z396 g_z396 rfl rfl | exact x_rb g_z396 rfl rfl | exact ⟨by omega, by omega⟩)) ?_)
        rintro s398 v ⟨hG_s398, t_s398, z397, rfl, b_z397⟩
        have J_s398 : J s398 := J.fl i_J t_s398 (by decide +kernel)
        have X1_s398 : X1 s398 := X1.fl i_X1 t_s398 (by decide +kernel)
        show xe (some (N, xs)) 231 1129 [(0, .ref 2000), (1, .ref 0), (2, .ref 256), (3, vi x3)] [vj z397] s398 295 10442 _
        refine x_A k231_1129 (fun _ => rfl) ?_
        refine x_A k231_1130 (fun _ => rfl) ?_
        refine x_A k231_1131 (fun _ => rfl) ?_
        refine x_A k231_1132 (fun _ => rfl) ?_
        refine x_A k231_1133 (fun _ => rfl) ?_
        refine x_iadd k231_1134 ?_
        refine x_top (fun z399 e_z399 => ?_)
        refine x_scr k231_1135 hN ⟨by omega, by omega⟩ (fun z400 g_z400 e_z400 => ?_)
        unfold in32 at g_z400
        have q_z400 : z400 = z394 := by rw [e_z400, e_z394, show z399 = z393 by omega]
        refine x_A k231_1136 (fun _ => rfl) ?_
        refine x_A k231_1137 (fun _ => rfl) ?_
        refine x_A k231_1138 (fun _ => rfl) ?_
        refine x_iadd k231_1139 ?_
        refine x_top (fun z401 e_z401 => ?_)
        refine x_scr k231_1140 hN ⟨by omega, by omega⟩ (fun z402 g_z402 e_z402 => ?_)
        unfold in32 at g_z402
        have q_z402 : z402 = z396 := by rw [e_z402, e_z396, show z401 = z395 by omega]
        refine x_callV k231_1141 (y := 214) (n := 2) (w0 := 0) (w1 := 2) (as := [vi z400, vi z402]) (rest := []) (by decide +kernel) (q := 256) (nq := 62) (kq := 15) ⟨by decide, rfl⟩ rfl rfl rfl rfl (xe_mono (C_X11_lacking_256 s398 hG_s398 J_s398 z400 (by first | exact x_rbe e_z400 g_z400 rfl rfl | exact x_rb g_z400 rfl rfl | exact ⟨by omega, by omega⟩) z402 (by first | exact x_rbe e_z402 g_z402 rfl rfl | exact x_rb g_z402 rfl rfl | exact ⟨by omega, by omega⟩)) ?_)
        rintro s404 v ⟨hG_s404, t_s404, z403, rfl, b_z403⟩
        have J_s404 : J s404 := J.fl J_s398 t_s404 (by decide +kernel)
        have X1_s404 : X1 s404 := X1.fl X1_s398 t_s404 (by decide +kernel)
        show xe (some (N, xs)) 231 1144 [(0, .ref 2000), (1, .ref 0), (2, .ref 256), (3, vi x3)] [vj z403] s404 295 10442 _
        refine x_A k231_1144 (fun _ => rfl) ?_
        refine x_goto k231_1145 (t := 1300) rfl ?_
        refine x_iinc k231_1300 (ls' := [(3, vi (x3 + 7)), (0, .ref 2000), (1, .ref 0), (2, .ref 256)]) rfl (by decide) rfl ?_
        refine x_goto k231_1303 (t := 18) rfl ?_
        refine x_ls (l := [(0, .ref 2000), (1, .ref 0), (2, .ref 256), (3, vi (x3 + 7))]) (show ([0, 1, 2, 3] : List Nat).Nodup from by decide +kernel) ⟨rfl, rfl, rfl, rfl, trivial⟩ ?_
        exact ih s404 (x3 + 7) hG_s404 trivial ⟨by omega, by omega⟩ J_s404 X1_s404  (by omega)
      · rw [c5]
        refine x_B k231_33 rfl (fun _ => rfl) (fun _ => rfl) (fun _ _ => rfl) ?_
        show xe (some (N, xs)) 231 1148 [(0, .ref 2000), (1, .ref 0), (2, .ref 256), (3, vi x3)] [] s 295 10442 _
        refine x_A k231_1148 (fun _ => rfl) ?_
        refine x_callV k231_1149 (y := 117) (n := 0) (w0 := 0) (w1 := 0) (as := []) (rest := []) (by decide +kernel) (q := 0) (nq := 12) (kq := 3) ⟨by decide, rfl⟩ rfl rfl rfl rfl (xe_mono (C_X10_story_0 s hG) ?_)
        rintro s406 v ⟨hG_s406, t_s406, z405, rfl, g_z405⟩
        have J_s406 : J s406 := J.fl i_J t_s406 (by decide +kernel)
        have X1_s406 : X1 s406 := X1.fl i_X1 t_s406 (by decide +kernel)
        show xe (some (N, xs)) 231 1152 [(0, .ref 2000), (1, .ref 0), (2, .ref 256), (3, vi x3)] [vi z405] s406 295 10442 _
        refine x_A k231_1152 (fun _ => rfl) ?_
        refine x_A k231_1153 (fun _ => rfl) ?_
        refine x_callV k231_1154 (y := 215) (n := 0) (w0 := 0) (w1 := 0) (as := []) (rest := []) (by decide +kernel) (q := 256) (nq := 62) (kq := 15) ⟨by decide, rfl⟩ rfl rfl rfl rfl (xe_mono (C_X11_story_256 s406 hG_s406) ?_)
        rintro s408 v ⟨hG_s408, t_s408, z407, rfl, g_z407⟩
        have J_s408 : J s408 := J.fl J_s406 t_s408 (by decide +kernel)
        have X1_s408 : X1 s408 := X1.fl X1_s406 t_s408 (by decide +kernel)
        show xe (some (N, xs)) 231 1157 [(0, .ref 2000), (1, .ref 0), (2, .ref 256), (3, vi x3)] [vi z407] s408 295 10442 _
        refine x_A k231_1157 (fun _ => rfl) ?_
        refine x_goto k231_1158 (t := 1300) rfl ?_
        refine x_iinc k231_1300 (ls' := [(3, vi (x3 + 7)), (0, .ref 2000), (1, .ref 0), (2, .ref 256)]) rfl (by decide) rfl ?_
        refine x_goto k231_1303 (t := 18) rfl ?_
        refine x_ls (l := [(0, .ref 2000), (1, .ref 0), (2, .ref 256), (3, vi (x3 + 7))]) (show ([0, 1, 2, 3] : List Nat).Nodup from by decide +kernel) ⟨rfl, rfl, rfl, rfl, trivial⟩ ?_
        exact ih s408 (x3 + 7) hG_s408 trivial ⟨by omega, by omega⟩ J_s408 X1_s408  (by omega)
      · rw [c5]
        refine x_B k231_33 rfl (fun _ => rfl) (fun _ => rfl) (fun _ _ => rfl) ?_
        show xe (some (N, xs)) 231 1161 [(0, .ref 2000), (1, .ref 0), (2, .ref 256), (3, vi x3)] [] s 295 10442 _
        refine x_A k231_1161 (fun _ => rfl) ?_
        refine x_A k231_1162 (fun _ => rfl) ?_
        refine x_A k231_1163 (fun _ => rfl) ?_
        refine x_A k231_1164 (fun _ => rfl) ?_
        refine x_iadd k231_1165 ?_
        refine x_top (fun z409 e_z409 => ?_)
        refine x_scr k231_1166 hN ⟨by omega, by omega⟩ (fun z410 g_z410 e_z410 => ?_)
        unfold in32 at g_z410
        refine x_A k231_1167 (fun _ => rfl) ?_
        refine x_A k231_1168 (fun _ => rfl) ?_
        refine x_A k231_1169 (fun _ => rfl) ?_
        refine x_iadd k231_1170 ?_
        refine x_top (fun z411 e_z411 => ?_)
        refine x_scr k231_1171 hN ⟨by omega, by omega⟩ (fun z412 g_z412 e_z412 => ?_)
        unfold in32 at g_z412
        refine x_A k231_1172 (fun _ => rfl) ?_
        refine x_A k231_1173 (fun _ => rfl) ?_
        refine x_A k231_1174 (fun _ => rfl) ?_
        refine x_iadd k231_1175 ?_
        refine x_top (fun z413 e_z413 => ?_)
        refine x_scr k231_1176 hN ⟨by omega, by omega⟩ (fun z414 g_z414 e_z414 => ?_)
        unfold in32 at g_z414
        refine x_callV k231_1177 (y := 118) (n := 3) (w0 := 0) (w1 := 3) (as := [vi z410, vi z412, vi z414]) (rest := []) (by decide +kernel) (q := 0) (nq := 12) (kq := 3) ⟨by decide, rfl⟩ rfl rfl rfl rfl (xe_mono (C_X10_moment_0 s hG z410 (by first | exact x_rbe e_z410 g_z410 rfl rfl | exact x_rb g_z410 rfl rfl | exact ⟨by omega, by omega⟩) z412 (by first | exact x_rbe e_z412 g_z412 rfl rfl | exact x_rb g_z412 rfl rfl | exact ⟨by omega, by omega⟩) z414 (by first | exact x_rbe e_z414 g_z414 rfl rfl | exact x_rb g_z414 rfl rfl | exact ⟨by omega, by omega⟩)) ?_)
        rintro s416 v ⟨hG_s416, t_s416, z415, rfl, g_z415⟩
        have J_s416 : J s416 := J.fl i_J t_s416 (by decide +kernel)
        have X1_s416 : X1 s416 := X1.fl i_X1 t_s416 (by decide +kernel)
        show xe (some (N, xs)) 231 1180 [(0, .ref 2000), (1, .ref 0), (2, .ref 256), (3, vi x3)] [vi z415] s416 295 10442 _
        refine x_A k231_1180 (fun _ => rfl) ?_
        refine x_A k231_1181 (fun _ => rfl) ?_
        refine x_A k231_1182 (fun _ => rfl) ?_
        refine x_A k231_1183 (fun _ => rfl) ?_
        refine x_A k231_1184 (fun _ => rfl) ?_
        refine x_iadd k231_1185 ?_
        refine x_top (fun z417 e_z417 => ?_)
        refine x_scr k231_1186 hN ⟨by omega, by omega⟩ (fun z418 g_z418 e_z418 => ?_)
        unfold in32 at g_z418
        have q_z418 : z418 = z410 := by rw [e_z418, e_z410, show z417 = z409 by omega]
        refine x_A k231_1187 (fun _ => rfl) ?_
        refine x_A k231_1188 (fun _ => rfl) ?_
        refine x_A k231_1189 (fun _ => rfl) ?_
        refine x_iadd k231_1190 ?_
        refine x_top (fun z419 e_z419 => ?_)
        refine x_scr k231_1191 hN ⟨by omega, by omega⟩ (fun z420 g_z420 e_z420 => ?_)
        unfold in32 at g_z420
        have q_z420 : z420 = z412 := by rw [e_z420, e_z412, show z419 = z411 by omega]
        refine x_A k231_1192 (fun _ => rfl) ?_
        refine x_A k231_1193 (fun _ => rfl) ?_
        refine x_A k231_1194 (fun _ => rfl) ?_
        refine x_iadd k231_1195 ?_
        refine x_top (fun z421 e_z421 => ?_)
        refine x_scr k231_1196 hN ⟨by omega, by omega⟩ (fun z422 g_z422 e_z422 => ?_)
        unfold in32 at g_z422
        have q_z422 : z422 = z414 := by rw [e_z422, e_z414, show z421 = z413 by omega]
        refine x_callV k231_1197 (y := 216) (n := 3) (w0 := 0) (w1 := 3) (as := [vi z418, vi z420, vi z422]) (rest := []) (by decide +kernel) (q := 256) (nq := 62) (kq := 15) ⟨by decide, rfl⟩ rfl rfl rfl rfl (xe_mono (C_X11_moment_256 s416 hG_s416 z418 (by first | exact x_rbe e_z418 g_z418 rfl rfl | exact x_rb g_z418 rfl rfl | exact ⟨by omega, by omega⟩) z420 (by first | exact x_rbe e_z420 g_z420 rfl rfl | exact x_rb g_z420 rfl rfl | exact ⟨by omega, by omega⟩) z422 (by first | exact x_rbe e_z422 g_z422 rfl rfl | exact x_rb g_z422 rfl rfl | exact ⟨by omega, by omega⟩)) ?_)
        rintro s424 v ⟨hG_s424, t_s424, z423, rfl, g_z423⟩
        have J_s424 : J s424 := J.fl J_s416 t_s424 (by decide +kernel)
        have X1_s424 : X1 s424 := X1.fl X1_s416 t_s424 (by decide +kernel)
        show xe (some (N, xs)) 231 1200 [(0, .ref 2000), (1, .ref 0), (2, .ref 256), (3, vi x3)] [vi z423] s424 295 10442 _
        refine x_A k231_1200 (fun _ => rfl) ?_
        refine x_goto k231_1201 (t := 1300) rfl ?_
        refine x_iinc k231_1300 (ls' := [(3, vi (x3 + 7)), (0, .ref 2000), (1, .ref 0), (2, .ref 256)]) rfl (by decide) rfl ?_
        refine x_goto k231_1303 (t := 18) rfl ?_
        refine x_ls (l := [(0, .ref 2000), (1, .ref 0), (2, .ref 256), (3, vi (x3 + 7))]) (show ([0, 1, 2, 3] : List Nat).Nodup from by decide +kernel) ⟨rfl, rfl, rfl, rfl, trivial⟩ ?_
        exact ih s424 (x3 + 7) hG_s424 trivial ⟨by omega, by omega⟩ J_s424 X1_s424  (by omega)
      · rw [c5]
        refine x_B k231_33 rfl (fun _ => rfl) (fun _ => rfl) (fun _ _ => rfl) ?_
        show xe (some (N, xs)) 231 1204 [(0, .ref 2000), (1, .ref 0), (2, .ref 256), (3, vi x3)] [] s 295 10442 _
        refine x_A k231_1204 (fun _ => rfl) ?_
        refine x_A k231_1205 (fun _ => rfl) ?_
        refine x_A k231_1206 (fun _ => rfl) ?_
        refine x_A k231_1207 (fun _ => rfl) ?_
        refine x_iadd k231_1208 ?_
        refine x_top (fun z425 e_z425 => ?_)
        refine x_scr k231_1209 hN ⟨by omega, by omega⟩ (fun z426 g_z426 e_z426 => ?_)
        unfold in32 at g_z426
        refine x_A k231_1210 (fun _ => rfl) ?_
        refine x_A k231_1211 (fun _ => rfl) ?_
        refine x_A k231_1212 (fun _ => rfl) ?_
        refine x_iadd k231_1213 ?_
        refine x_top (fun z427 e_z427 => ?_)
        refine x_scr k231_1214 hN ⟨by omega, by omega⟩ (fun z428 g_z428 e_z428 => ?_)
        unfold in32 at g_z428
        refine x_A k231_1215 (fun _ => rfl) ?_
        refine x_A k231_1216 (fun _ => rfl) ?_
        refine x_A k231_1217 (fun _ => rfl) ?_
        refine x_iadd k231_1218 ?_
        refine x_top (fun z429 e_z429 => ?_)
        refine x_scr k231_1219 hN ⟨by omega, by omega⟩ (fun z430 g_z430 e_z430 => ?_)
        unfold in32 at g_z430
        refine x_A k231_1220 (fun _ => rfl) ?_
        refine x_A k231_1221 (fun _ => rfl) ?_
        refine x_A k231_1222 (fun _ => rfl) ?_
        refine x_iadd k231_1223 ?_
        refine x_top (fun z431 e_z431 => ?_)
        refine x_scr k231_1224 hN ⟨by omega, by omega⟩ (fun z432 g_z432 e_z432 => ?_)
        unfold in32 at g_z432
        refine x_callV k231_1225 (y := 119) (n := 4) (w0 := 0) (w1 := 4) (as := [vi z426, vi z428, vi z430, vi z432]) (rest := []) (by decide +kernel) (q := 0) (nq := 12) (kq := 3) ⟨by decide, rfl⟩ rfl rfl rfl rfl (xe_mono (C_X10_of_0 s hG i_J z426 (by first | exact x_rbe e_z426 g_z426 rfl rfl | exact x_rb g_z426 rfl rfl | exact ⟨by omega, by omega⟩) z428 (by first | exact x_rbe e_z428 g_z428 rfl rfl | exact x_rb g_z428 rfl rfl | exact ⟨by omega, by omega⟩) z430 (by first | exact x_rbe e_z430 g_z430 rfl rfl | exact x_rb g_z430 rfl rfl | exact ⟨by omega, by omega⟩) z432 (by first | exact x_rbe e_z432 g_z432 rfl rfl | exact x_rb g_z432 rfl rfl | exact ⟨by omega, by omega⟩)) ?_)
        rintro s434 v ⟨hG_s434, t_s434, z433, rfl, g_z433⟩
        have J_s434 : J s434 := J.fl i_J t_s434 (by decide +kernel)
        have X1_s434 : X1 s434 := X1.fl i_X1 t_s434 (by decide +kernel)
        show xe (some (N, xs)) 231 1228 [(0, .ref 2000), (1, .ref 0), (2, .ref 256), (3, vi x3)] [vi z433] s434 295 10442 _
        refine x_A k231_1228 (fun _ => rfl) ?_
        refine x_A k231_1229 (fun _ => rfl) ?_
        refine x_A k231_1230 (fun _ => rfl) ?_
        refine x_A k231_1231 (fun _ => rfl) ?_
        refine x_A k231_1232 (fun _ => rfl) ?_
        refine x_iadd k231_1233 ?_
        refine x_top (fun z435 e_z435 => ?_)
        refine x_scr k231_1234 hN ⟨by omega, by omega⟩ (fun z436 g_z436 e_z436 => ?_)
        unfold in32 at g_z436
        have q_z436 : z436 = z426 := by rw [e_z436, e_z426, show z435 = z425 by omega]
        refine x_A k231_1235 (fun _ => rfl) ?_
        refine x_A k231_1236 (fun _ => rfl) ?_
        refine x_A k231_1237 (fun _ => rfl) ?_
        refine x_iadd k231_1238 ?_
        refine x_top (fun z437 e_z437 => ?_)
        refine x_scr k231_1239 hN ⟨by omega, by omega⟩ (fun z438 g_z438 e_z438 => ?_)
        unfold in32 at g_z438
        have q_z438 : z438 = z428 := by rw [e_z438, e_z428, show z437 = z427 by omega]
        refine x_A k231_1240 (fun _ => rfl) ?_
        refine x_A k231_1241 (fun _ => rfl) ?_
        refine x_A k231_1242 (fun _ => rfl) ?_
        refine x_iadd k231_1243 ?_
        refine x_top (fun z439 e_z439 => ?_)
        refine x_scr k231_1244 hN ⟨by omega, by omega⟩ (fun z440 g_z440 e_z440 => ?_)
        unfold in32 at g_z440
        have q_z440 : z440 = z430 := by rw [e_z440, e_z430, show z439 = z429 by omega]
        refine x_A k231_1245 (fun _ => rfl) ?_
        refine x_A k231_1246 (fun _ => rfl) ?_
        refine x_A k231_1247 (fun _ => rfl) ?_
        refine x_iadd k231_1248 ?_
        refine x_top (fun z441 e_z441 => ?_)
        refine x_scr k231_1249 hN ⟨by omega, by omega⟩ (fun z442 g_z442 e_z442 => ?_)
        unfold in32 at g_z442
        have q_z442 : z442 = z432 := by rw [e_z442, e_z432, show z441 = z431 by omega]
        refine x_callV k231_1250 (y := 217) (n := 4) (w0 := 0) (w1 := 4) (as := [vi z436, vi z438, vi z440, vi z442]) (rest := []) (by decide +kernel) (q := 256) (nq := 62) (kq := 15) ⟨by decide, rfl⟩ rfl rfl rfl rfl (xe_mono (C_X11_of_256 s434 hG_s434 J_s434 z436 (by first | exact x_rbe e_z436 g_z436 rfl rfl | exact x_rb g_z436 rfl rfl | exact ⟨by omega, by omega⟩) z438 (by first | exact x_rbe e_z438 g_z438 rfl rfl | exact x_rb g_z438 rfl rfl | exact ⟨by omega, by omega⟩) z440 (by first | exact x_rbe e_z440 g_z440 rfl rfl | exact x_rb g_z440 rfl rfl | exact ⟨by omega, by omega⟩) z442 (by first | exact x_rbe e_z442 g_z442 rfl rfl | exact x_rb g_z442 rfl rfl | exact ⟨by omega, by omega⟩)) ?_)
        rintro s444 v ⟨hG_s444, t_s444, z443, rfl, g_z443⟩
        have J_s444 : J s444 := J.fl J_s434 t_s444 (by decide +kernel)
        have X1_s444 : X1 s444 := X1.fl X1_s434 t_s444 (by decide +kernel)
        show xe (some (N, xs)) 231 1253 [(0, .ref 2000), (1, .ref 0), (2, .ref 256), (3, vi x3)] [vi z443] s444 295 10442 _
        refine x_A k231_1253 (fun _ => rfl) ?_
        refine x_goto k231_1254 (t := 1300) rfl ?_
        refine x_iinc k231_1300 (ls' := [(3, vi (x3 + 7)), (0, .ref 2000), (1, .ref 0), (2, .ref 256)]) rfl (by decide) rfl ?_
        refine x_goto k231_1303 (t := 18) rfl ?_
        refine x_ls (l := [(0, .ref 2000), (1, .ref 0), (2, .ref 256), (3, vi (x3 + 7))]) (show ([0, 1, 2, 3] : List Nat).Nodup from by decide +kernel) ⟨rfl, rfl, rfl, rfl, trivial⟩ ?_
        exact ih s444 (x3 + 7) hG_s444 trivial ⟨by omega, by omega⟩ J_s444 X1_s444  (by omega)
      · rw [c5]
        refine x_B k231_33 rfl (fun _ => rfl) (fun _ => rfl) (fun _ _ => rfl) ?_
        show xe (some (N, xs)) 231 1257 [(0, .ref 2000), (1, .ref 0), (2, .ref 256), (3, vi x3)] [] s 295 10442 _
        refine x_A k231_1257 (fun _ => rfl) ?_
        refine x_A k231_1258 (fun _ => rfl) ?_
        refine x_A k231_1259 (fun _ => rfl) ?_
        refine x_A k231_1260 (fun _ => rfl) ?_
        refine x_iadd k231_1261 ?_
        refine x_top (fun z445 e_z445 => ?_)
        refine x_scr k231_1262 hN ⟨by omega, by omega⟩ (fun z446 g_z446 e_z446 => ?_)
        unfold in32 at g_z446
        refine x_A k231_1263 (fun _ => rfl) ?_
        refine x_A k231_1264 (fun _ => rfl) ?_
        refine x_A k231_1265 (fun _ => rfl) ?_
        refine x_iadd k231_1266 ?_
        refine x_top (fun z447 e_z447 => ?_)
        refine x_scr k231_1267 hN ⟨by omega, by omega⟩ (fun z448 g_z448 e_z448 => ?_)
        unfold in32 at g_z448
        refine x_A k231_1268 (fun _ => rfl) ?_
        refine x_A k231_1269 (fun _ => rfl) ?_
        refine x_A k231_1270 (fun _ => rfl) ?_
        refine x_iadd k231_1271 ?_
        refine x_top (fun z449 e_z449 => ?_)
        refine x_scr k231_1272 hN ⟨by omega, by omega⟩ (fun z450 g_z450 e_z450 => ?_)
        unfold in32 at g_z450
        refine x_callV k231_1273 (y := 120) (n := 3) (w0 := 0) (w1 := 3) (as := [vi z446, vi z448, vi z450]) (rest := []) (by decide +kernel) (q := 0) (nq := 12) (kq := 3) ⟨by decide, rfl⟩ rfl rfl rfl rfl (xe_mono (C_X10_split_0 s hG i_J z446 (by first | exact x_rbe e_z446 g_z446 rfl rfl | exact x_rb g_z446 rfl rfl | exact ⟨by omega, by omega⟩) z448 (by first | exact x_rbe e_z448 g_z448 rfl rfl | exact x_rb g_z448 rfl rfl | exact ⟨by omega, by omega⟩) z450 (by first | exact x_rbe e_z450 g_z450 rfl rfl | exact x_rb g_z450 rfl rfl | exact ⟨by omega, by omega⟩)) ?_)
        rintro s452 v ⟨hG_s452, t_s452, z451, rfl, g_z451⟩
        have J_s452 : J s452 := J.fl i_J t_s452 (by decide +kernel)
        have X1_s452 : X1 s452 := X1.fl i_X1 t_s452 (by decide +kernel)
        show xe (some (N, xs)) 231 1276 [(0, .ref 2000), (1, .ref 0), (2, .ref 256), (3, vi x3)] [vi z451] s452 295 10442 _
        refine x_A k231_1276 (fun _ => rfl) ?_
        refine x_A k231_1277 (fun _ => rfl) ?_
        refine x_A k231_1278 (fun _ => rfl) ?_
        refine x_A k231_1279 (fun _ => rfl) ?_
        refine x_A k231_1280 (fun _ => rfl) ?_
        refine x_iadd k231_1281 ?_
        refine x_top (fun z453 e_z453 => ?_)
        refine x_scr k231_1282 hN ⟨by omega, by omega⟩ (fun z454 g_z454 e_z454 => ?_)
        unfold in32 at g_z454
        have q_z454 : z454 = z446 := by rw [e_z454, e_z446, show z453 = z445 by omega]
        refine x_A k231_1283 (fun _ => rfl) ?_
        refine x_A k231_1284 (fun _ => rfl) ?_
        refine x_A k231_1285 (fun _ => rfl) ?_
        refine x_iadd k231_1286 ?_
        refine x_top (fun z455 e_z455 => ?_)
        refine x_scr k231_1287 hN ⟨by omega, by omega⟩ (fun z456 g_z456 e_z456 => ?_)
        unfold in32 at g_z456
        have q_z456 : z456 = z448 := by rw [e_z456, e_z448, show z455 = z447 by omega]
        refine x_A k231_1288 (fun _ => rfl) ?_
        refine x_A k231_1289 (fun _ => rfl) ?_
        refine x_A k231_1290 (fun _ => rfl) ?_
        refine x_iadd k231_1291 ?_
        refine x_top (fun z457 e_z457 => ?_)
        refine x_scr k231_1292 hN ⟨by omega, by omega⟩ (fun z458 g_z458 e_z458 => ?_)
        unfold in32 at g_z458
        have q_z458 : z458 = z450 := by rw [e_z458, e_z450, show z457 = z449 by omega]
        refine x_callV k231_1293 (y := 218) (n := 3) (w0 := 0) (w1 := 3) (as := [vi z454, vi z456, vi z458]) (rest := []) (by decide +kernel) (q := 256) (nq := 62) (kq := 15) ⟨by decide, rfl⟩ rfl rfl rfl rfl (xe_mono (C_X11_split_256 s452 hG_s452 J_s452 z454 (by first | exact x_rbe e_z454 g_z454 rfl rfl | exact x_rb g_z454 rfl rfl | exact ⟨by omega, by omega⟩) z456 (by first | exact x_rbe e_z456 g_z456 rfl rfl | exact x_rb g_z456 rfl rfl | exact ⟨by omega, by omega⟩) z458 (by first | exact x_rbe e_z458 g_z458 rfl rfl | exact x_rb g_z458 rfl rfl | exact ⟨by omega, by omega⟩)) ?_)
        rintro s460 v ⟨hG_s460, t_s460, z459, rfl, g_z459⟩
        have J_s460 : J s460 := J.fl J_s452 t_s460 (by decide +kernel)
        have X1_s460 : X1 s460 := X1.fl X1_s452 t_s460 (by decide +kernel)
        show xe (some (N, xs)) 231 1296 [(0, .ref 2000), (1, .ref 0), (2, .ref 256), (3, vi x3)] [vi z459] s460 295 10442 _
        refine x_A k231_1296 (fun _ => rfl) ?_
        refine x_goto k231_1297 (t := 1300) rfl ?_
        refine x_iinc k231_1300 (ls' := [(3, vi (x3 + 7)), (0, .ref 2000), (1, .ref 0), (2, .ref 256)]) rfl (by decide) rfl ?_
        refine x_goto k231_1303 (t := 18) rfl ?_
        refine x_ls (l := [(0, .ref 2000), (1, .ref 0), (2, .ref 256), (3, vi (x3 + 7))]) (show ([0, 1, 2, 3] : List Nat).Nodup from by decide +kernel) ⟨rfl, rfl, rfl, rfl, trivial⟩ ?_
        exact ih s460 (x3 + 7) hG_s460 trivial ⟨by omega, by omega⟩ J_s460 X1_s460  (by omega)
      · refine x_tabD k231_33 ⟨by omega, by omega⟩ c5 (t0 := 1300) rfl ?_
        refine x_iinc k231_1300 (ls' := [(3, vi (x3 + 7)), (0, .ref 2000), (1, .ref 0), (2, .ref 256)]) rfl (by decide) rfl ?_
        refine x_goto k231_1303 (t := 18) rfl ?_
        refine x_ls (l := [(0, .ref 2000), (1, .ref 0), (2, .ref 256), (3, vi (x3 + 7))]) (show ([0, 1, 2, 3] : List Nat).Nodup from by decide +kernel) ⟨rfl, rfl, rfl, rfl, trivial⟩ ?_
        exact ih s (x3 + 7) hG f ⟨by omega, by omega⟩ i_J i_X1  (by omega)
